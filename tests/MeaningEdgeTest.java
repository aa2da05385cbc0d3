import java.math.BigInteger;

/** The edges of section 4 (promises 5 to 10): numbers that go round, places, frames, TICKS, what can be ASKED. */
public final class MeaningEdgeTest {
    private static final String[] TYPES = {"int", "char", "long"};
    private static final long[] WORDS = {0, 1, -1, 2, -2, 7, 31, 32, 33, 63, 64, 65535, 65536, Integer.MAX_VALUE, Integer.MIN_VALUE,
        Integer.MIN_VALUE + 1};
    private static final long[] CHARS = {0, 1, 2, 31, 32, 127, 128, 255};
    private static final long[] LONGS = {0, 1, -1, 2, 31, 32, 63, 64, 65, Integer.MAX_VALUE, Integer.MIN_VALUE, 1L << 31, 1L << 32,
        (1L << 32) - 1, Long.MAX_VALUE, Long.MIN_VALUE, Long.MIN_VALUE + 1};

    public static void main(String[] args) {
        signs();
        conversions();
        oneMoreOneLess();
        pointers();
        ordersOfPointers();
        placesOfMemory();
        placedNames();
        framesAndOffsets();
        topsThatGoRound();
        ticks();
        calls();
        functionPointers();
        inputAndOutput();
        switches();
        asked();
        aheadOfAny();
        convertedExps();
        wrongNumbersOfVoid();
        returnsOfNothing();
        droppedValues();
        arraysOfOneCell();
        placesThatGoRound();
        allVariables();
        nothingIsWrittenByTraps();
        nothingBeginsByBound();
        Case.end();
    }

    private static long[] values(int type) {
        return type == 0 ? WORDS : type == 1 ? CHARS : LONGS;
    }

    /** What a sign makes of two numbers, or null by DIVISION. */
    private static Long due(String sign, long a, long b, boolean isLong, boolean leftLong) {
        BigInteger one = BigInteger.valueOf(a);
        BigInteger other = BigInteger.valueOf(b);
        BigInteger made;
        int bits = (int) (b & (leftLong ? 63 : 31));
        BigInteger most = BigInteger.ONE.shiftLeft(isLong ? 63 : 31);
        switch (sign) {
            case "+":
                made = one.add(other);
                break;
            case "-":
                made = one.subtract(other);
                break;
            case "*":
                made = one.multiply(other);
                break;
            case "/":
                if (b == 0 || one.divide(other).equals(most)) {
                    return null;
                }
                made = one.divide(other);
                break;
            case "%":
                if (b == 0) {
                    return null;
                }
                made = one.remainder(other);
                break;
            case "&":
                made = one.and(other);
                break;
            case "|":
                made = one.or(other);
                break;
            case "^":
                made = one.xor(other);
                break;
            case "<<":
                made = one.shiftLeft(bits);
                return leftLong ? made.longValue() : (long) made.intValue();
            case ">>":
                made = one.shiftRight(bits);
                return leftLong ? made.longValue() : (long) made.intValue();
            default:
                int order = one.compareTo(other);
                boolean holds = sign.equals("<") ? order < 0 : sign.equals("<=") ? order <= 0 : sign.equals(">") ? order > 0
                    : sign.equals(">=") ? order >= 0 : sign.equals("==") ? order == 0 : order != 0;
                return holds ? 1L : 0L;
        }
        return isLong ? made.longValue() : (long) made.intValue();
    }

    /** All pairs of types and of numbers at an edge. */
    private static void signs() {
        for (String sign : new String[] {"+", "-", "*", "/", "%", "&", "|", "^", "<<", ">>", "<", "<=", ">", ">=", "==", "!="}) {
            for (int left = 0; left < 3; left++) {
                for (int right = 0; right < 3; right++) {
                    boolean leftLong = left == 2;
                    boolean isLong = leftLong || right == 2;
                    for (long a : values(left)) {
                        Codekiln x = Case.loaded("long f(" + TYPES[left] + " a," + TYPES[right] + " b){return a" + sign + "b;}");
                        for (long b : values(right)) {
                            Long due = due(sign, a, b, isLong, leftLong);
                            String what = a + sign + b;
                            Case.is("end of " + what, x.mean(0, 0, a, b, 0), due == null ? 1 : 0);
                            Case.is(what, x.meant(0), due == null ? 0 : due);
                            Case.is("both ways of " + what, x.agree(0, 0, (int) (a & 1) * 127, a, b, 0), 1);
                        }
                    }
                }
            }
        }
    }

    private static long converted(long number, int type) {
        return type == 0 ? (int) number : type == 1 ? number & 255 : number;
    }

    /** Each type to each one: by a cast, =, return, a call, & of a PLACED one; char takes 8 bits, int 32. */
    private static void conversions() {
        for (int from = 0; from < 3; from++) {
            for (int to = 0; to < 3; to++) {
                Codekiln x = Case.loaded("long f(" + TYPES[from] + " a){return (" + TYPES[to] + ")a;}"
                    + "long g(" + TYPES[from] + " a){" + TYPES[to] + " b=a;return b;}"
                    + TYPES[to] + " h(" + TYPES[from] + " a){return a;}"
                    + "long i(" + TYPES[to] + " a){return a;}long j(" + TYPES[from] + " a){return i(a);}"
                    + TYPES[to] + " k;long l(" + TYPES[from] + " a){return (k=a)*1L+k-k;}"
                    + "long m(" + TYPES[from] + " a){" + TYPES[to] + " b=a;&b;return b;}");
                for (long a : LONGS) {
                    long given = converted(a, from);
                    for (int f : new int[] {0, 1, 2, 4, 5, 6}) {
                        x.mean(0, f, a, 0, 0);
                        Case.is(TYPES[from] + " " + a + " to " + TYPES[to] + " by " + f, x.meant(0), converted(given, to));
                    }
                    Case.is("both ways", x.agree(0, 5, 127, a, 0, 0), 1);
                }
            }
        }
        // What is given to the asked one is converted.
        Codekiln x = Case.loaded("long f(int a,char b,long c){return a*1000000L+b*1000+c;}");
        x.mean(0, 0, (5L << 32) - 1, 511, 1L << 40);
        Case.is("given", x.meant(0), -1000000 + 255000 + (1L << 40));
        Case.is("both ways", x.agree(0, 0, 127, (5L << 32) - 1, 511, 1L << 40), 1);
        Case.value("int f(){return (int)(char*)4294967299L;}", 3);
        Case.value("long f(){return (long)(char*)2147483648L;}", Integer.MIN_VALUE);
        Case.value("int f(){return (char)(int*)511;}", 255);
    }

    /** ++ and -- go round: LOOSE, PLACED, GLOBAL, behind a pointer, in an array; behind, the value is the old one. */
    private static void oneMoreOneLess() {
        long[][] edges = {{Integer.MAX_VALUE, Integer.MIN_VALUE, 0, -1}, {255, 0, 1, 128}, {Long.MAX_VALUE, Long.MIN_VALUE, 0, Integer.MAX_VALUE}};
        String[] places = {"a", "b", "g", "(*p)", "v[1]"};
        for (int type = 0; type < 3; type++) {
            for (String place : places) {
                for (String sign : new String[] {"++", "--"}) {
                    for (int behind = 0; behind < 2; behind++) {
                        String step = behind == 1 ? place + sign : sign + place;
                        String t = TYPES[type];
                        Codekiln x = Case.loaded(t + " g;long f(" + t + " a){" + t + " b=a;" + t + " v[3];" + t + "*p=v+2;&b;g=a;*p=a;v[1]=a;"
                            + "long r=" + step + ";put(r);put(r>>32);return " + place + ";}");
                        for (long a : edges[type]) {
                            long now = converted(sign.equals("++") ? a + 1 : a - 1, type);
                            long value = behind == 1 ? a : now;
                            x.mean(0, 0, a, 0, 0);
                            Case.is(step + " of " + t + " " + a, x.meant(0), now);
                            Case.is("its value", (long) x.out(1) << 32 | x.out(0) & 4294967295L, value);
                            Case.is("both ways", x.agree(0, 0, 127, a, 0, 0), 1);
                        }
                    }
                }
            }
        }
    }

    /** The SIZE is multiplied, and goes round; the difference is divided, cut toward 0. */
    private static void pointers() {
        String[] types = {"char*", "int*", "long*", "char**", "long**"};
        int[] steps = {1, 4, 8, 4, 4};
        int[] numbers = {0, 1, -1, 3, Integer.MAX_VALUE, Integer.MIN_VALUE, 536870912, 1 << 30};
        for (int t = 0; t < types.length; t++) {
            String type = types[t];
            String text = "int f(int a,int b){return (int)((" + type + ")a+b);}int g(int a,int b){return (int)(b+(" + type + ")a);}"
                + "int h(int a,int b){return (int)((" + type + ")a-b);}int i(int a,int b){return (" + type + ")a-(" + type + ")b;}"
                + "int j(int a,int b){" + type + "p=(" + type + ")a;p+=b;return (int)p;}"
                + "int k(int a,int b){" + type + "p=(" + type + ")a;p-=b;return (int)p;}"
                + "int l(int a){" + type + "p=(" + type + ")a;p++;++p;return (int)p++;}"
                + "int m(int a){" + type + "p=(" + type + ")a;p--;--p;return (int)p--;}"
                + "int n(int a,int b){return (int)&((" + type + ")a)[b];}";
            for (int a : new int[] {0, 5, -5, Integer.MAX_VALUE, Integer.MIN_VALUE}) {
                Codekiln x = Case.loaded(text);
                for (int b : numbers) {
                    int[] due = {a + b * steps[t], a + b * steps[t], a - b * steps[t], (a - b) / steps[t], a + b * steps[t],
                        a - b * steps[t], a + 2 * steps[t], a - 2 * steps[t], a + b * steps[t]};
                    for (int f = 0; f < due.length; f++) {
                        x.mean(0, f, a, b, 0);
                        Case.is(type + " " + f + " of " + a + " and " + b, x.meant(0), due[f]);
                    }
                }
                Case.is("both ways", x.agree(0, 3, 0, a, 3, 0), 1);
                Case.is("both ways", x.agree(0, 8, 127, a, -3, 0), 1);
            }
        }
    }

    private static void ordersOfPointers() {
        int[] numbers = {0, 1, Integer.MAX_VALUE, Integer.MIN_VALUE, -1};
        String[] signs = {"<", "<=", ">", ">=", "==", "!="};
        StringBuilder text = new StringBuilder();
        for (int k = 0; k < signs.length; k++) {
            text.append("int f").append(k).append("(int a,int b){return (int*)a").append(signs[k]).append("(int*)b;}");
        }
        Codekiln x = Case.loaded(text + "int z(int a){return (int*)a==0;}int y(int a){return !(int*)a;}");
        for (int a : numbers) {
            for (int b : numbers) {
                int order = Integer.compareUnsigned(a, b);
                boolean[] due = {order < 0, order <= 0, order > 0, order >= 0, order == 0, order != 0};
                for (int f = 0; f < 6; f++) {
                    x.mean(0, f, a, b, 0);
                    Case.is(a + signs[f] + b, x.meant(0), due[f] ? 1 : 0);
                }
            }
            x.mean(0, 6, a, 0, 0);
            Case.is("beside the NUMBER 0", x.meant(0), a == 0 ? 1 : 0);
            x.mean(0, 7, a, 0, 0);
            Case.is("!", x.meant(0), a == 0 ? 1 : 0);
        }
    }

    /** A place is taken without a sign; if some byte is beyond MEMORY, it is MEMORY, and nothing is written. */
    private static void placesOfMemory() {
        int[] sizes = {4, 1, 8};
        for (int t = 0; t < 3; t++) {
            String type = TYPES[t];
            Codekiln x = Case.loaded(type + " f(int a){return *(" + type + "*)a;}int g(int a){*(" + type + "*)a=-1;return 5;}"
                + "int h(int a){(*(" + type + "*)a)++;return 5;}int i(int a,int b){((" + type + "*)a)[b]=-1;return 5;}");
            int last = 4096 - sizes[t];
            for (int place : new int[] {0, 1, 15, last - 1, last}) {
                Case.is("read at " + place, x.mean(0, 0, place, 0, 0), 0);
                Case.is("write at " + place, x.mean(0, 1, place, 0, 0), 0);
                for (int k = -1; k <= sizes[t]; k++) {
                    boolean in = k >= 0 && k < sizes[t];
                    if (place + k >= 0 && place + k < 4096) {
                        Case.is("meantByte(" + (place + k) + ")", x.meantByte(place + k), in ? 255 : 0);
                    }
                }
                Case.is("++ at " + place, x.mean(0, 2, place, 0, 0), 0);
                Case.is("meantByte(" + place + ")", x.meantByte(place), 1);
            }
            for (int place : new int[] {last + 1, 4095 + (t == 1 ? 1 : 0), 4096, 4097, Integer.MAX_VALUE, Integer.MIN_VALUE, -1, -sizes[t], -4096}) {
                for (int f = 0; f < 3; f++) {
                    Case.is(f + " at " + place, x.mean(0, f, place, 0, 0), 2);
                    Case.is("no value", x.meant(0), 0);
                    Case.is("nothing is written", x.meant(5), emptySum());
                    Case.is("both ways", x.agree(0, f, 127, place, 0, 0), 1);
                }
            }
            // What an index makes goes round.
            Case.is("round to the last place", x.mean(0, 3, last + sizes[t], -1, 0), 0);
            Case.is("below 0", x.mean(0, 3, 0, -1, 0), 2);
            Case.is("up from below 0", x.mean(0, 3, -sizes[t], 1, 0), 0);
            Case.is("far round", x.mean(0, 3, 16, 1 << 30, 0), t == 1 ? 2 : 0);
        }
    }

    private static int emptySum() {
        int sum = 17;
        for (int k = 0; k < 4096; k++) {
            sum *= 31;
        }
        return sum;
    }

    /** Where a PLACED name lies does not go round, what & gives of it does. */
    private static void placedNames() {
        // A frame of 1600 bytes: that of the 3rd call begins at -704.
        String text = "int f(int n,int m){int a;char b[199];long c[173];int d;&a;&d;if(n)return f(n-1,m);if(m==1)a=1;if(m==2)d=1;"
            + "if(m==3)b[0]=1;if(m==4)c[172]=1;if(m==5)*&a=1;if(m==6)*(&d+178)=7;if(m==7)return (int)&a;return 5;}";
        Codekiln x = Case.loaded(text);
        int frame = x.functionIs(0, 0, 3);
        Case.is("FRAME", frame, 1600);
        int[] due = {0, 2, 2, 2, 0, 2, 0, 0};
        for (int m = 0; m < 8; m++) {
            Case.is("the 3rd call, " + m, x.mean(0, 0, 2, m, 0), due[m]);
            Case.is("both ways", x.agree(0, 0, 127, 2, m, 0), 1);
        }
        x.mean(0, 0, 2, 7, 0);
        Case.is("& of a name", x.meant(0), 4096 - 3 * frame);
        int at = 4096 - 3 * frame + x.variableIs(0, 0, 5, 2) + 178 * 4;
        x.mean(0, 0, 2, 6, 0);
        Case.is("round into MEMORY at " + at, x.meantByte(at), 7);
    }

    /** FRAMES are rounded up to what 8 divides. */
    private static void framesAndOffsets() {
        int[][] cells = {{1, 8}, {7, 8}, {8, 8}, {9, 16}, {16, 16}, {17, 24}, {199, 200}, {200, 200}};
        for (int[] one : cells) {
            Codekiln x = Case.loaded("void f(){char a[" + one[0] + "];}");
            Case.is("FRAME of " + one[0], x.functionIs(0, 0, 3), one[1]);
            Case.is("PLACED", x.functionIs(0, 0, 2), 1);
            x.mean(0, 0, 0, 0, 0);
            Case.is("TOP", x.meant(6), 4096);
        }
        Codekiln x = Case.loaded("void f(char a,long b,char c,int d,char e){&e;&d;&c;&b;&a;char g;long h[1];char i;&i;}void j(int a){a;}");
        int[] due = {0, 8, 16, 20, 24, -1, 32, 40};
        for (int v = 0; v < due.length; v++) {
            Case.is("OFFSET of " + v, x.variableIs(0, 0, v, 2), due[v]);
        }
        Case.is("FRAME", x.functionIs(0, 0, 3), 48);
        Case.is("FRAME without PLACED ones", x.functionIs(0, 1, 3), 0);
        Case.is("PLACED of none", x.functionIs(0, 1, 2), 0);
        // PLACED parameters are stored as the call begins, in order, what else lies there is left as it is.
        Codekiln y = Case.loaded("int f(char a,int b){char c[3];&a;&b;return c[0]+c[1]+c[2];}int g(){f(1,2);int r=f(-1,-1);return r;}"
            + "int h(){char v[8];v[0]=v[1]=v[2]=v[3]=v[4]=v[5]=v[6]=v[7]=9;return 1;}int k(){h();return f(0,0);}");
        y.mean(0, 1, 0, 0, 0);
        Case.is("cells that nothing was put in", y.meant(0), 0);
        y.mean(0, 3, 0, 0, 0);
        Case.is("what lay there", y.meant(0), 27);
        Case.is("both ways", y.agree(0, 3, 127, 0, 0, 0), 1);
    }

    private static void topsThatGoRound() {
        // 24 calls of 4800 bytes each: far below 0, and back.
        Codekiln x = Case.loaded("int f(int n){long a[200];long b[200];long c[200];if(n>1)return f(n-1);return 3;}");
        Case.is("FRAME", x.functionIs(0, 0, 3), 4800);
        Case.is("24 calls", x.mean(0, 0, 24, 0, 0), 0);
        Case.is("value", x.meant(0), 3);
        Case.is("TOP", x.meant(6), 4096);
        Case.is("25 calls", x.mean(0, 0, 25, 0, 0), 4);
        Case.is("TOP of 24", x.meant(6), 4096 - 24 * 4800);
        Case.is("both ways", x.agree(0, 0, 127, 24, 0, 0), 1);
        Case.is("both ways", x.agree(0, 0, 127, 25, 0, 0), 2);
    }

    private static void bound(String text, int most) {
        Codekiln x = Case.loaded(text);
        Case.is("up to the bound: " + text, x.mean(0, 0, most, 0, 0), 0);
        Case.is("TICKS", x.meant(1) <= 3000 && x.meant(1) > 2997, true);
        Case.is("beyond it: " + text, x.mean(0, 0, most + 1, 0, 0), 4);
        Case.is("TICKS", x.meant(1), 3000);
        Case.is("no value", x.meant(0), 0);
        Case.is("both ways", x.agree(0, 0, 0, most + 1, 0, 0), 2);
    }

    /** One as a call begins, one each time that a test is due, or the statement of do begins. */
    private static void ticks() {
        bound("int f(int n){while(n--);return 1;}", 2998);
        bound("int f(int n){for(;n;n--);return 1;}", 2998);
        bound("int f(int n){for(;;)if(n--==0)return 1;}", 2998);
        bound("int f(int n){do n--;while(n);return 1;}", 2999);
        bound("int f(int n){while(n--)put(n);return 1;}", 1499);
        bound("int f(int n){while(n--)get();return 1;}", 1499);
        bound("int f(int n);void g(){}int f(int n){while(n--)g();return 1;}", 1499);
        bound("int f(int n);void g(){}void(*h)()=g;int f(int n){while(n--)h();return 1;}", 1499);
        bound("int f(int n){while(n--)do;while(0);return 1;}", 1499);
        bound("int f(int n){do continue;while(--n);return 1;}", 2999);
        bound("int f(int n){for(;n--;)for(;0;);return 1;}", 1499);
        int[][] due = {{1, 0}, {2, 1}, {2, 2}, {3, 3}, {2, 4}, {2, 5}, {4, 6}, {2, 7}, {3, 8}, {2, 9}};
        Codekiln x = Case.loaded("void f0(){}void f1(){while(0);}void f2(){for(;0;);}void f3(){do;while(get()+1);f0();}void f4(){for(;;)break;}"
            + "void f5(){do break;while(1);}void f6(){int i=0;while(i<2)i++;}void f7(){put(1);}void f8(){put(get());}void f9(){f0();}");
        for (int[] one : due) {
            x.mean(0, one[1], 0, 0, 0);
            int want = one[1] == 3 ? 4 : one[0];
            Case.is("TICKS of f" + one[1], x.meant(1), want);
        }
        // The last TICK: what it begins is done, the next one ends it ahead of what it would begin.
        Codekiln y = Case.loaded("int f(int n){while(n--);put(7);return get();}");
        y.feed(9);
        Case.is("3000 TICKS", y.mean(0, 0, 2996, 0, 0), 0);
        Case.is("TICKS", y.meant(1), 3000);
        Case.is("value", y.meant(0), 9);
        Case.is("3001 TICKS", y.mean(0, 0, 2997, 0, 0), 4);
        Case.is("TICKS", y.meant(1), 3000);
        Case.is("what was put", y.meant(3), 1);
        Case.is("3002 TICKS", y.mean(0, 0, 2998, 0, 0), 4);
        Case.is("nothing was put", y.meant(3), 0);
    }

    /** At most 24 calls that have begun and not ended, get and put not counted. */
    private static void calls() {
        Codekiln x = Case.loaded("int f(int n){if(n>1)return f(n-1);put(get());return n;}int g(int n){int i=0;while(i++<n)f(1);return f(n);}");
        x.feed(8);
        Case.is("24 calls", x.mean(0, 0, 24, 0, 0), 0);
        Case.is("the most", x.meant(2), 24);
        Case.is("TICKS", x.meant(1), 26);
        Case.is("put", x.out(0), 8);
        Case.is("25 calls", x.mean(0, 0, 25, 0, 0), 4);
        Case.is("the most", x.meant(2), 24);
        Case.is("TICKS", x.meant(1), 25);
        Case.is("nothing was put", x.meant(3), 0);
        Case.is("calls that have ended do not count", x.mean(0, 1, 23, 0, 0), 0);
        Case.is("the most", x.meant(2), 24);
        Case.is("one more", x.mean(0, 1, 24, 0, 0), 4);
        Case.is("one call", x.mean(0, 0, 1, 0, 0), 0);
        Case.is("the most", x.meant(2), 1);
        // By a FUNCTION POINTER: the TABLE comes ahead of that.
        Codekiln y = Case.loaded("int f(int n);int(*h)(int)=f;int f(int n){if(n==1&&get()==1)h=0;if(n>0)return h(n-1);return 3;}");
        Case.is("24 calls", y.mean(0, 0, 23, 0, 0), 0);
        Case.is("25 calls", y.mean(0, 0, 24, 0, 0), 4);
        y.feed(1);
        Case.is("TABLE ahead of BOUND", y.mean(0, 0, 24, 0, 0), 3);
        Case.is("without a TICK", y.meant(1), 25);
    }

    /** The number of no function, or of one of other SORTS. */
    private static void functionPointers() {
        String[] others = {"int z(){return 4;}", "char z(){return 4;}", "int*z(){return (int*)4;}", "long z(){return 4;}", "void z(){}",
            "int z(int a){return 4;}", "int z(long a){return 4;}", "int z(char a){return 4;}", "int z(int*a){return 4;}",
            "int z(int(*a)()){return 4;}", "int z(int a,int b){return 4;}", "int z(int a,long b){return 4;}", "long z(int a){return 4;}"};
        String[] sorts = {"i", "i", "i", "l", "", "ii", "il", "ii", "ii", "ii", "iii", "iil", "li"};
        String[] pointers = {"int(*y)()", "long(*y)()", "void(*y)()", "int(*y)(int)", "int(*y)(long)", "int(*y)(int,int)", "char(*y)(char*)",
            "long(*y)(char)"};
        String[] wanted = {"i", "l", "", "ii", "il", "iii", "ii", "li"};
        String[] given = {"", "", "", "1", "1", "1,2", "0", "1"};
        for (int p = 0; p < pointers.length; p++) {
            for (int o = 0; o < others.length; o++) {
                Codekiln x = Case.loaded(pointers[p] + ";" + others[o] + "int x(int n){*(int*)16=n;y(" + given[p] + ");return 6;}");
                Case.is(others[o] + " by " + pointers[p], x.mean(0, 1, 1, 0, 0), wanted[p].equals(sorts[o]) ? 0 : 3);
                Case.is("both ways", x.agree(0, 1, 127, 1, 0, 0), 1);
            }
        }
        Codekiln x = Case.loaded("int(*y)();int a(){return 1;}int b(){return 2;}int f(int n){*(int*)16=n;return y();}int g(){return y();}");
        int[][] due = {{0, 3}, {1, 0}, {2, 0}, {3, 3}, {4, 4}, {5, 3}, {6, 3}, {-1, 3}, {Integer.MIN_VALUE, 3}, {Integer.MAX_VALUE, 3}};
        for (int[] one : due) {
            int end = x.mean(0, 2, one[0], 0, 0);
            Case.is("the number " + one[0], end, one[1]);
            int value = one[0] == 1 ? 1 : one[0] == 2 ? 2 : 0;
            Case.is("value", x.meant(0), value);
            Case.is("both ways", x.agree(0, 2, 127, one[0], 0, 0), one[1] == 4 ? 2 : 1);
        }
        Case.is("0 at first", x.mean(0, 3, 0, 0, 0), 3);
        Case.is("TICKS", x.meant(1), 1);
    }

    /** The INPUT has at most 40 numbers; -1 behind the last one; 100 numbers of those put are kept. */
    private static void inputAndOutput() {
        Codekiln x = Case.loaded("int f(int n){int r=0;while(n--)put(r=get());return r;}");
        Case.is("an empty INPUT", x.mean(0, 0, 1, 0, 0), 0);
        Case.is("value", x.meant(0), -1);
        for (int k = 1; k <= 40; k++) {
            Case.is("feed", x.feed(k == 40 ? Integer.MIN_VALUE : k), k);
        }
        Case.noState("a 41st", () -> x.feed(41));
        x.mean(0, 0, 40, 0, 0);
        Case.is("the 40th", x.meant(0), Integer.MIN_VALUE);
        x.mean(0, 0, 41, 0, 0);
        Case.is("the 41st", x.meant(0), -1);
        Case.is("the 1st", x.out(0), 1);
        Case.is("the 39th", x.out(38), 39);
        Case.is("the 41st", x.out(40), -1);
        Case.noElement("the 42nd", () -> x.out(41));
        x.mean(0, 0, 100, 0, 0);
        Case.is("the 100th", x.out(99), -1);
        Case.noElement("a 101st", () -> x.out(100));
        x.mean(0, 0, 101, 0, 0);
        Case.is("the 100th", x.out(99), -1);
        Case.noElement("the 101st", () -> x.out(100));
        Case.is("how many", x.meant(3), 101);
        Case.noElement("out(-1)", () -> x.out(-1));
        Case.is("clearInput", x.clearInput(), 40);
        Case.is("clearInput", x.clearInput(), 0);
        x.mean(0, 0, 1, 0, 0);
        Case.is("an empty INPUT", x.meant(0), -1);
        Case.is("sum of one", x.meant(4), 17 * 31 - 1);
        x.mean(0, 0, 0, 0, 0);
        Case.is("sum of none", x.meant(4), 17);
    }

    private static void switches() {
        int[][] sets = {{0, 39}, {0, 40}, {-20, 19}, {-20, 20}, {Integer.MAX_VALUE, Integer.MAX_VALUE - 39},
            {-Integer.MAX_VALUE, -Integer.MAX_VALUE + 39}, {-Integer.MAX_VALUE, Integer.MAX_VALUE}, {5, 4}};
        for (int[] set : sets) {
            for (String otherwise : new String[] {"", "default:r=9;"}) {
                Codekiln x = Case.loaded("int f(int n){int r=0;switch(n){case " + set[0] + ":r=1;break;" + otherwise + "case " + set[1] + ":r+=2;}return r;}");
                for (int n : new int[] {set[0], set[1], set[0] - 1, set[0] + 1, set[1] - 1, set[1] + 1, 0, Integer.MIN_VALUE, Integer.MAX_VALUE}) {
                    int due = n == set[0] ? 1 : n == set[1] ? 2 : otherwise.isEmpty() ? 0 : 11;
                    x.mean(0, 0, n, 0, 0);
                    Case.is("switch of " + n + " by " + set[0] + " and " + set[1], x.meant(0), due);
                    Case.is("both ways", x.agree(0, 0, 0, n, 0, 0), 1);
                    Case.is("both ways", x.agree(0, 0, 127, n, 0, 0), 1);
                }
            }
        }
        Case.value("int f(char c){switch(c){case 255:return 1;case -1:return 2;}return 3;}", -1, 0, 1);
        Case.value("int f(){int r=0;switch(2){case 1:r=1;}return r;}", 0);
        Case.value("int f(){switch(get()){}return 6;}", 6);
    }

    /** At most 3 parameters, each of which is int, char or long. */
    private static void asked() {
        String[] good = {"", "int a", "char a,long b", "long a,char b,int c"};
        String[] bad = {"int a,int b,int c,int d", "int*a", "char*a", "long**a", "int(*a)()", "int a,int*b", "int a,char b,long*c",
            "int a,int b,void(*c)()", "int a,int b,int c,int d,int e"};
        String[] results = {"int", "char", "long", "int*", "void", "char**"};
        for (String result : results) {
            for (String one : good) {
                Codekiln x = Case.made(result + " f(" + one + "){" + (result.equals("void") ? "" : "return 0;") + "}");
                Case.is("ASKED", x.functionIs(0, 0, 5), 1);
                Case.is("mean", x.mean(0, 0, 1, 2, 3), 0);
                Case.is("agree", x.agree(0, 0, 127, 1, 2, 3), 1);
                Case.is("begin", x.begin(0, 0, 1, 2, 3), 0);
                Case.is("alike", x.alike(0, 0, 127, 1, 2, 3), 1);
            }
            for (String one : bad) {
                Codekiln x = Case.made(result + " f(" + one + "){" + (result.equals("void") ? "" : "return 0;") + "}");
                Case.is("ASKED", x.functionIs(0, 0, 5), 0);
                Case.noState("mean", () -> x.mean(0, 0, 1, 2, 3));
                Case.noState("agree", () -> x.agree(0, 0, 127, 1, 2, 3));
                Case.noState("begin", () -> x.begin(0, 0, 1, 2, 3));
                Case.noState("alike", () -> x.alike(0, 0, 127, 1, 2, 3));
                Case.is("no run", x.meanSteps() == 0.0 && x.errors() == 0, true);
            }
        }
    }

    private static void aheadOfAny() {
        Codekiln x = Case.loaded("int a=5;int f(int*p){return 1;}");
        Case.noState("mean", () -> x.mean(0, 0, 1, 2, 3));
        for (int what = 0; what < 7; what++) {
            Case.is("meant(" + what + ")", x.meant(what), 0);
        }
        Case.noElement("out(0)", () -> x.out(0));
        for (int place : new int[] {0, 16, 4095}) {
            Case.is("meantByte(" + place + ")", x.meantByte(place), 0);
        }
        Case.is("firstByte(0, 16)", x.firstByte(0, 16), 5);
    }

    /** A call works out its exps, each converted: the first and the last, of a function, by a pointer, and of put. */
    private static void convertedExps() {
        String types = "char a,int b,long c,char d,char e";
        String sum = "{put(a);put(b);put((int)(c>>32));put(d);put(e);return c;}";
        String given = "(1000,4294967298L,-3,513L,-1)";
        long[] puts = {1000 & 255, 2, -1, 1, 255};
        String[] texts = {"long g(" + types + ")" + sum + "long f(){return g" + given + ";}",
            "long g(" + types + ")" + sum + "long(*h)(char,int,long,char,char)=g;long f(){return h" + given + ";}",
            "long g(" + types + ")" + sum + "long f(){long(*h)(char,int,long,char,char)=g;return h" + given + ";}",
            "long g(" + types + "){&a;&b;&c;&d;&e;" + sum.substring(1) + "long f(){return g" + given + ";}"};
        for (String text : texts) {
            Codekiln x = Case.loaded(text);
            Case.is("end of " + text, x.mean(0, 1, 0, 0, 0), 0);
            Case.is("value of " + text, x.meant(0), -3);
            for (int k = 0; k < 5; k++) {
                Case.is("exp " + k + " of " + text, x.out(k), puts[k]);
            }
            Case.is("both ways", x.agree(0, 1, 0, 0, 0, 0), 1);
            Case.is("both ways", x.agree(0, 1, 127, 0, 0, 0), 1);
        }
        Codekiln x = Case.loaded("void f(long a){put(a);put(a+1);put((char)a);}");
        x.mean(0, 0, 4294967295L, 0, 0);
        Case.is("put of a LONG", x.out(0), -1);
        Case.is("put of a LONG", x.out(1), 0);
        Case.is("put of a char", x.out(2), 255);
        Case.is("both ways", x.agree(0, 0, 127, 4294967295L, 0, 0), 1);
        Case.value("int f(int n){int b=7;if(n)return *&b;return 0;}", 1, 0, 7);
        Case.value("char f(int n){return n;}", 300, 0, 44);
        Case.value("int f(long n){return n;}", 1L << 32 | 5, 0, 5);
        Case.value("long f(int n){return n;}", -5, 0, -5);
    }

    /** The number of no function is TABLE also for a FUNCTION POINTER of nothing and void. */
    private static void wrongNumbersOfVoid() {
        for (String pointer : new String[] {"void(*y)()", "int(*y)()"}) {
            Codekiln x = Case.loaded(pointer + ";int f(int n){*(int*)16=n;y();return 7;}" + (pointer.startsWith("v") ? "void" : "int") + " g(){}");
            int[] numbers = {0, 1, 2, 3, 4, -1, -2, 12, 13, Integer.MIN_VALUE, Integer.MAX_VALUE};
            for (int n : numbers) {
                Case.is("the number " + n + " by " + pointer, x.mean(0, 0, n, 0, 0), n == 2 ? 0 : 3);
                Case.is("both ways", x.agree(0, 0, 0, n, 0, 0), 1);
                Case.is("both ways", x.agree(0, 0, 127, n, 0, 0), 1);
            }
        }
    }

    /** return without exp ends the function, in whatever it stands. */
    private static void returnsOfNothing() {
        String[] bodies = {"if(n)return;put(1);", "while(1){if(n)return;put(1);n=1;}", "switch(n){case 1:return;default:put(1);}put(2);",
            "do{for(;;){if(n>0)return;put(1);n++;}}while(1);", "return;put(1);", "{{return;}}put(1);"};
        int[][] puts = {{1, 0}, {1, 0}, {2, 0}, {1, 0}, {0, 0}, {0, 0}};
        for (int k = 0; k < bodies.length; k++) {
            Codekiln x = Case.loaded("void g(int n){" + bodies[k] + "}void f(int n){g(n);put(9);}");
            for (int n = 0; n < 2; n++) {
                Case.is("end of " + bodies[k], x.mean(0, 0, n, 0, 0), 0);
                Case.is("value", x.meant(0), 0);
                Case.is("puts of " + bodies[k], x.meant(3), puts[k][n]);
                Case.is("called", x.mean(0, 1, n, 0, 0), 0);
                Case.is("puts of " + bodies[k] + ", called", x.meant(3), puts[k][n] + 1);
                Case.is("both ways", x.agree(0, 1, 0, n, 0, 0), 1);
                Case.is("both ways", x.agree(0, 1, 127, n, 0, 0), 1);
            }
        }
    }

    /** What an exp gives, and nobody takes, does not add up, however long it goes on. */
    private static void droppedValues() {
        Codekiln x = Case.loaded("int f(int n){int i;int s=0;for(i=0;i<n;i++){i;s+=i;-i;i*2;s=s;s=s;n=n;s;}return s;}void g(){}int h(int n){int s=0;"
            + "while(s<n){s++;g();s;s;}return s;}int k(int n){int i;int j;for(i=0;i<n;i+=50)for(j=0;j<49;j++){j;j;j;j;}return i;}");
        Case.is("a long loop", x.mean(0, 0, 2998, 0, 0), 0);
        Case.is("its value", x.meant(0), 2997 * 2998 / 2);
        Case.is("TICKS", x.meant(1), 3000);
        Case.is("one round more", x.mean(0, 0, 2999, 0, 0), 4);
        Case.is("calls of void", x.mean(0, 2, 1499, 0, 0), 0);
        Case.is("its value", x.meant(0), 1499);
        Case.is("TICKS", x.meant(1), 3000);
        Case.is("one call more", x.mean(0, 2, 1500, 0, 0), 4);
        Case.is("loops in loops", x.mean(0, 3, 2800, 0, 0), 0);
        Case.is("its value", x.meant(0), 2800);
    }

    /** The least NUMBER of an array is 1: it is an array all the same. */
    private static void arraysOfOneCell() {
        Case.value("int a[1]={5};int f(){return *a+a[0];}", 10);
        Case.value("int f(){int a[1];a[0]=6;return *a;}", 6);
        Case.value("int b;int a[1];int f(){return (int)a;}", 20);
        Case.value("int f(){int b[3];int a[1];return (int)a-(int)b;}", 12);
        Case.value("char a[1]=\"\";char*f=\"x\";int h(){return a[0]+*f;}", 'x');
        Case.value("char a[1]={7};int f(){return *a;}", 7);
        Case.value("long a[1]={-7L};long f(){long*p=a;return *p;}", -7);
        Codekiln x = Case.loaded("char a[1]=\"\";char b=3;int f(){char c[1];return 1;}");
        Case.is("its cells", x.globalIs(0, 0, 1), 1);
        Case.is("none", x.globalIs(0, 1, 1), 0);
        Case.is("the place behind", x.globalIs(0, 1, 2), 17);
        Case.is("all bytes", x.programIs(0, 3), 2);
        Case.is("cells of a local", x.variableIs(0, 0, 0, 1), 1);
        Case.is("PLACED", x.functionIs(0, 0, 2), 1);
        Case.is("FRAME", x.functionIs(0, 0, 3), 8);
        Case.codeOf("char b;char a[1];int f(){return a[0];}", "65.17 65.0 106 45.0 15 65.0 11");
        Case.codeOf("int f(){int a[1];a;return 1;}", "35.0 65.8 107 34.0 36.0 32.0 65.0 106 26 65.1 32.0 65.8 106 36.0 15 65.0 32.0 65.8 106 36.0 11");
        Case.faultAt(3, "int a[1];void f(){a@=0;}");
        Case.faultAt(3, "void f(){int a[1];a@=0;}");
        Case.faultAt(3, "int a[1];void f(){a@++;}");
        Case.faultAt(3, "char a[1]=@\"x\";");
        // A ROW of a first GLOBAL lies in its array, that of a later one, too.
        Codekiln y = Case.loaded("char a[3]=\"hi\";char b[4]=\"you\";char*c=\"a\";");
        byte[] due = {'h', 'i', 0, 'y', 'o', 'u', 0, 0, 28, 0, 0, 0, 'a', 0};
        for (int k = 0; k < due.length; k++) {
            Case.is("byte " + (16 + k), y.firstByte(0, 16 + k), due[k]);
        }
        Case.is("all bytes", y.programIs(0, 3), 14);
    }

    /** Behind 0 a place is a word with its sign, and a long of it keeps that. */
    private static void placesThatGoRound() {
        Codekiln x = Case.loaded("long f(int n){int b;int a[200];char c[200];if(n)return f(n-1);return (long)&b;}"
            + "long g(int n){int a[200];char c[200];if(n)return g(n-1);return (long)a;}long h(int n){int a[200];char c[200];if(n)return h(n-1);return (long)(c+1);}"
            + "int k(int n){int b;int a[200];if(n)return k(n-1);return &b<a;}");
        for (int n = 0; n < 24; n++) {
            Case.is("end", x.mean(0, 0, n, 0, 0), 0);
            Case.is("& in the call " + n, x.meant(0), 4096 - 1008L * (n + 1));
            Case.is("both ways", x.agree(0, 0, 127, n, 0, 0), 1);
            x.mean(0, 1, n, 0, 0);
            Case.is("array in the call " + n, x.meant(0), 4096 - 1000L * (n + 1));
            Case.is("both ways", x.agree(0, 1, 127, n, 0, 0), 1);
            x.mean(0, 2, n, 0, 0);
            Case.is("array and 1 in the call " + n, x.meant(0), 4096 - 1000L * (n + 1) + 801);
            Case.is("both ways", x.agree(0, 2, 127, n, 0, 0), 1);
            Case.is("both ways", x.agree(0, 3, 127, n, 0, 0), 1);
        }
    }

    /** 5 parameters and 20 locals, all LOOSE or all PLACED, each by itself in each call. */
    private static void allVariables() {
        StringBuilder declared = new StringBuilder();
        StringBuilder told = new StringBuilder();
        StringBuilder placed = new StringBuilder();
        for (int k = 0; k < 25; k++) {
            char name = (char) ('a' + k);
            declared.append(k < 5 ? "" : "int " + name + ";if(_)" + name + "=" + (k + 1) + ";");
            told.append("put(").append(name).append(");");
            placed.append("&").append(name).append(";");
        }
        for (int k = 0; k < 2; k++) {
            Codekiln x = Case.loaded("int _;void z(int a,int b,int c,int d,int e){" + declared + (k == 0 ? "" : placed) + "if(_>1){_--;z(5,4,3,2,1);}" + told
                + "}void y(int k){_=k;z(1,2,3,4,5);}");
            Case.is("all of them", x.functionIs(0, 0, 0) + x.functionIs(0, 0, 1), 25);
            Case.is("PLACED", x.functionIs(0, 0, 2), k == 0 ? 0 : 25);
            Case.is("FRAME", x.functionIs(0, 0, 3), k == 0 ? 0 : 104);
            for (int n = 0; n < 4; n++) {
                Case.is("end", x.mean(0, 1, n, 0, 0), 0);
                Case.is("calls", x.meant(2), Math.max(1, n) + 1);
                for (int v = 0; v < 25 && n > 0; v++) {
                    Case.is("the variable " + v + " of the innermost one of " + n, x.out(v), n == 1 || v >= 5 ? v + 1 : 5 - v);
                    Case.is("the variable " + v + " of the outermost one of " + n, x.out(25 * n - 25 + v), v + 1);
                }
                // LOOSE ones are 0 as a call begins, the last one, too.
                for (int v = 5; v < 25 && n + k == 0; v++) {
                    Case.is("the local " + v, x.out(v), 0);
                }
                Case.is("both ways", x.agree(0, 1, 0, n, 0, 0), 1);
                Case.is("both ways", x.agree(0, 1, 127, n, 0, 0), 1);
            }
        }
    }

    /** What ends by DIVISION, or MEMORY, has written nothing by that. */
    private static void nothingIsWrittenByTraps() {
        String[] texts = {"int g=7;int f(int n){g/=n-n;return 1;}", "int g=7;int f(int n){g%=n-n;return 1;}", "char g=7;int f(int n){g/=n-n;return 1;}",
            "long g=7;int f(int n){g%=n-n;return 1;}", "int g=7;int f(int n){g=n/(n-n);return 1;}", "int g=7;int f(int n){*(&g)/=n-n;return 1;}",
            "int g=7;int f(int n){(&g)[0]%=0;return 1;}", "int g=7;int f(int n){g=*(int*)4093;return 1;}", "int g=7;int f(int n){g+=*(int*)4093;return 1;}",
            "int g=7;int f(int n){put(1/(n-n));g=8;return 1;}", "int g=7;int f(int n){g=f(n/(n-n));return 1;}", "int g=7;int f(int n){*(int*)4093=g=8/(n-n);return 1;}"};
        for (int k = 0; k < texts.length; k++) {
            Codekiln x = Case.loaded(texts[k]);
            Case.is("end of " + texts[k], x.mean(0, 0, 5, 0, 0), k == 7 || k == 8 ? 2 : 1);
            Case.is("GLOBAL of " + texts[k], x.meantByte(16), 7);
            Case.is("puts", x.meant(3), 0);
            Case.is("value", x.meant(0), 0);
            Case.is("both ways", x.agree(0, 0, 0, 5, 0, 0), 1);
            Case.is("both ways", x.agree(0, 0, 127, 5, 0, 0), 1);
        }
        Codekiln x = Case.loaded("int g=7;int f(int n){*(int*)n=g=8;return 1;}int h(int n){*(int*)n=-1;return 1;}int k(int n){*(long*)n=-1L;return 1;}"
            + "int l(int n){(*(int*)n)++;return 1;}int m(int n){*(long*)n+=1L;return 1;}");
        Case.is("MEMORY", x.mean(0, 0, 4093, 0, 0), 2);
        Case.is("the right side was written", x.meantByte(16), 8);
        for (int f = 1; f < 5; f++) {
            int size = f == 1 || f == 3 ? 4 : 8;
            for (int place = 4096 - size - 1; place < 4097; place++) {
                Case.is("end of " + f + " at " + place, x.mean(0, f, place, 0, 0), place + size > 4096 ? 2 : 0);
                for (int b = 4080; b < 4096; b++) {
                    boolean isWritten = place + size <= 4096 && (f < 3 ? b >= place && b < place + size : b == place);
                    Case.is("byte " + b, x.meantByte(b), !isWritten ? 0 : f < 3 ? 255 : 1);
                }
            }
        }
    }

    /** A call that the bound ends has not begun: neither its frame nor its place among the calls is there. */
    private static void nothingBeginsByBound() {
        Codekiln x = Case.loaded("int g(int n){int a[10];a[0]=n;return n;}int f(int n){int b[3];int i;b[0]=0;for(i=0;i<n;i++)b[0]+=g(1);g(5);return b[0];}"
            + "int h(int n){int a[3];a[0]=n;return n?h(n-1):0;}");
        // 1 of f, 2 for each round, 1 of its end, 1 of the last call.
        Case.is("2999 TICKS", x.mean(0, 1, 1498, 0, 0), 0);
        Case.is("TICKS", x.meant(1), 2999);
        Case.is("the last call's frame is gone", x.meant(6), 4096);
        Case.is("one round more", x.mean(0, 1, 1499, 0, 0), 4);
        Case.is("TICKS", x.meant(1), 3000);
        Case.is("TOP, of f alone", x.meant(6), 4096 - 16);
        Case.is("the most calls", x.meant(2), 2);
        Codekiln y = Case.loaded("int g(){int a[10];return 1;}int f(int n){int b[3];while(n--);return g();}");
        Case.is("a call with the 3000th TICK", y.mean(0, 1, 2997, 0, 0), 0);
        Case.is("the most calls", y.meant(2), 2);
        Case.is("a call with the 3001st TICK", y.mean(0, 1, 2998, 0, 0), 4);
        Case.is("TICKS", y.meant(1), 3000);
        Case.is("the most calls", y.meant(2), 1);
        Case.is("TOP", y.meant(6), 4096 - 16);
        for (int n = 22; n < 26; n++) {
            Case.is("calls", x.mean(0, 2, n, 0, 0), n < 24 ? 0 : 4);
            Case.is("TOP", x.meant(6), n < 24 ? 4096 : 4096 - 24 * 16);
            Case.is("the most calls", x.meant(2), Math.min(n + 1, 24));
            Case.is("TICKS", x.meant(1), n < 24 ? n + 1 : 25);
        }
    }
}
