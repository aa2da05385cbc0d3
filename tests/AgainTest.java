import java.util.Arrays;

/** A kiln that is used again answers as a new one does: nothing is left of what was emptied, dropped, refused or trapped. */
public final class AgainTest {
    private static final int I = 127;
    private static final int L = 126;

    public static void main(String[] args) {
        faultsOfEmptiedTexts();
        textsBehindFaults();
        programsBehindOthers();
        workingsOut();
        modulesBehindOthers();
        readsBehindOthers();
        readsBehindWrongOnes();
        passesBehindOthers();
        runsBehindOthers();
        piecesAreTexts();
        Case.end();
    }

    private static int[] a(int... all) {
        return all;
    }

    private static String faultOf(Codekiln x) {
        return x.faultKind() + " at " + x.faultPlace();
    }

    /** What was asked of a text that is gone is not told of the next one. */
    private static void faultsOfEmptiedTexts() {
        Codekiln x = new Codekiln();
        Case.is("no text", faultOf(x), "0 at -1");
        Case.put(x, "int a");
        Case.is("an end too early", faultOf(x), "1 at 5");
        Case.is("clearText", x.clearText(), 5);
        Case.is("an emptied text", faultOf(x), "0 at -1");
        Case.put(x, "int a;int a;");
        Case.is("a second one", faultOf(x), "2 at 10");
        Case.noState("load", x::load);
        Case.is("as it was", faultOf(x), "2 at 10");
        x.clearText();
        Case.put(x, "int a");
        Case.is("ahead of its end", faultOf(x), "1 at 5");
        Case.put(x, ";");
        Case.is("with its end", faultOf(x), "0 at -1");
        Case.is("load", x.load(), 0);
        Case.is("behind load", faultOf(x), "0 at -1");
        Case.is("load of nothing", x.load(), 1);
        Case.is("GLOBALS of nothing", x.programIs(1, 1), 0);
        x.piece(0);
        Case.is("a piece", faultOf(x), "0 at -1");
        Case.put(x, "}");
        Case.is("a brace too much", faultOf(x), "1 at 52");
    }

    /** Whatever was open, bound or counted as a text ended does not count in the next one. */
    private static void textsBehindFaults() {
        String[] broken = {"int f(){{{{{{{{{{{", "int f(){while(1){for(;;){do{switch(1){case 1:", "int f(int a,int b){int c;{int d;",
            "int f(int a){switch(a){case 1:int b;{int c;@", "int f(){return((((((((((1", "int a[3]={1,2", "int(*f)(int,int",
            "int a(){return 1;}int b();int c", "char*s=\"x\";int f(){\"a\";\"b\";\"c\";\"d\";\"e\";\"f\";\"g\";\"h\";", "int g(){return -!~-!~-!~-!~"};
        String[] whole = {"int f(){{{{{{{{{{{}}}}}}}}}}return 1;}", "int f(){return((((((((((1))))))))));}", "int f(){break;}", "int f(){continue;}",
            "int f(){switch(1){case 1:break;}}", "int f(){switch(1){case 1:continue;}}", "int a;int b;int c;int d;int f(){return a;}", "int f(){return a;}",
            "int f(){return c+d;}", "int b(){return 1;}", "int a(){return 1;}int b(){return a();}", "char*s=\"y\";char t[2]=\"z\";int f(){\"1\";\"2\";\"3\";\"4\";\"5\";\"6\";}",
            "int f(){int a;int b;int c;int d;int e;int g;int h;int i;int j;int k;int l;int m;int n;int o;int p;int q;int r;int s;int t;int u;}",
            "int f(int a,int b,int c,int d,int e){return a;}", "int f(){return -1;}int f();", "int(*f)(int,int,int,int,int)=0;", ""};
        for (String ahead : broken) {
            Codekiln x = new Codekiln();
            for (String text : whole) {
                Case.put(x, ahead);
                x.faultKind();
                x.clearText();
                Case.put(x, text);
                String got = x.faultKind() == 0 && x.faultPlace() == Codekiln.NONE ? "none" : faultOf(x);
                Case.is("fault of " + text + " behind " + ahead, got, Case.fault(text));
                x.clearText();
            }
        }
    }

    /** A program is what its text says, whatever stood in its place ahead of it. */
    private static void programsBehindOthers() {
        String[] texts = {"char a[5]=\"abcd\";int b=7;long c=-1L;int(*d)()=0;", "int b;char a[5];", "int f(int a){int b[3];int*c=&a;return *c;}", "int f(int a){int b;int c;return a;}",
            "char*s=\"abc\";char t[9]=\"x\";", "char*s;char t[9];", ""};
        for (String ahead : texts) {
            for (String text : texts) {
                Codekiln x = new Codekiln();
                Case.put(x, ahead);
                x.faultKind();
                x.clearText();
                Case.put(x, text);
                Case.is("load", x.load(), 0);
                Codekiln y = Case.loaded(text);
                for (int what = 0; what < 4; what++) {
                    Case.is("programIs " + what + " of " + text + " behind " + ahead, x.programIs(0, what), y.programIs(0, what));
                }
                for (int place = 0; place < 64; place++) {
                    Case.is("firstByte " + place + " of " + text + " behind " + ahead, x.firstByte(0, place), y.firstByte(0, place));
                }
                for (int what = 0; what < 6 && y.programIs(0, 0) > 0; what++) {
                    Case.is("functionIs " + what + " of " + text + " behind " + ahead, x.functionIs(0, 0, what), y.functionIs(0, 0, what));
                }
                x.make(0);
                y.make(0);
                x.write(0);
                y.write(0);
                Case.is("bytes of " + text + " behind " + ahead, x.checksum(), y.checksum());
            }
        }
    }

    private static String worked(Codekiln x, int f, int n) {
        StringBuilder all = new StringBuilder();
        all.append(x.mean(0, f, n, 0, 0));
        for (int what = 0; what < 7; what++) {
            all.append(' ').append(x.meant(what));
        }
        for (int k = 0; k < x.meant(3) && k < 100; k++) {
            all.append(' ').append(x.out(k));
        }
        return all.append(' ').append(x.meantByte(16)).append(' ').append(x.meantByte(4080)).toString();
    }

    /** Each mean() begins anew: MEMORY, TOP, INPUT, OUTPUT, TICKS, the calls, and what was left behind by a trap. */
    private static void workingsOut() {
        String text = "int g=3;int f(int n){int a[8];int i;a[0]=n;put(get()+g);g=g+n;if(n>9)return 8/(n-n);if(n>6)return a[5000];if(n>3)return 1+(2+(3+f(n)));"
            + "for(i=0;i<n;i++)put(i);return a[0]+g;}void h(int n){if(n){put(n);h(n-1);}}int k(int n){while(n)put(n);return n;}";
        int[][] calls = {{0, 2}, {0, 10}, {0, 7}, {0, 4}, {1, 3}, {2, 0}, {2, 1}, {1, 30}, {0, 1}, {0, 0}};
        for (int[] one : calls) {
            for (int[] two : calls) {
                Codekiln x = Case.loaded(text);
                x.feed(5);
                worked(x, one[0], one[1]);
                String got = worked(x, two[0], two[1]);
                Codekiln y = Case.loaded(text);
                y.feed(5);
                Case.is("f" + two[0] + "(" + two[1] + ") behind f" + one[0] + "(" + one[1] + ")", got, worked(y, two[0], two[1]));
            }
        }
        // What 400 workings out leave on stacks does not add up.
        Codekiln z = Case.loaded(text);
        z.feed(5);
        String first = worked(z, 0, 1);
        for (int k = 0; k < 400; k++) {
            z.mean(0, 0, 4 + k % 9, 0, 0);
        }
        Case.is("behind 400 others", worked(z, 0, 1), first);
    }

    private static String written(Codekiln x, int module) {
        StringBuilder all = new StringBuilder();
        int many = x.write(module);
        for (int k = 0; k < many; k++) {
            all.append(x.byteAt(k)).append(' ');
        }
        for (int what = 0; what < 14; what++) {
            all.append(' ').append(x.moduleIs(module, what));
        }
        return all.toString();
    }

    /** Modules in the place of dropped ones are what they were made of, and no more. */
    private static void modulesBehindOthers() {
        String text = "int t[3]={1,2,3};int f(int a){int b[2];switch(a){case 1:b[0]=1;break;case 2:return t[a];}return b[0];}"
            + "long g(long a,char b){while(b--)a+=b;return a;}";
        int[] plain = Case.module(a(1, 1, 96, 0, 1, I), a(3, 1, 0), a(7, 1, 1, 'f', 0, 0), Case.codeSection(65, 9, 11));
        Codekiln x = Case.loaded(text);
        x.piece(0);
        x.load();
        x.make(0);
        x.make(1);
        String due0 = written(x, 0);
        String due1 = written(x, 1);
        Case.setBytes(x, plain);
        Case.is("read", x.read(), 2);
        String due2 = written(x, 2);
        Case.is("of no program", x.moduleIs(2, 9), 0);
        int[][] orders = {{0, 1, 2}, {2, 0, 1}, {1, 2, 0}, {2, 2, 2}, {0, 0, 0}, {1, 1, 1}};
        for (int[] order : orders) {
            Case.is("clearModules", x.clearModules(), 3);
            for (int k = 0; k < 3; k++) {
                Case.setBytes(x, plain);
                Case.is("its number", order[k] == 2 ? x.read() : x.make(order[k]), k);
            }
            for (int k = 0; k < 3; k++) {
                Case.is("the module of " + order[k], written(x, k), order[k] == 0 ? due0 : order[k] == 1 ? due1 : due2);
            }
        }
        x.clearModules();
        x.make(0);
        x.pass(0, 1);
        x.clearModules();
        Case.setBytes(x, plain);
        x.read();
        x.pass(0, 1);
        Case.is("a pass over what was read", x.moduleIs(1, 9), 0);
    }

    private static String readOf(Codekiln x, int... bytes) {
        Case.setBytes(x, bytes);
        int got = x.read();
        return got + ": " + x.fault(true) + " at " + x.fault(false);
    }

    /** What the module ahead had (types, imports, functions, a table, a memory) does not count for the next one. */
    private static void readsBehindOthers() {
        int[] head = Case.module();
        int[] rich = Case.module(a(1, 3, 96, 0, 1, I, 96, 1, I, 0, 96, 2, I, L, 1, L),
            a(2, 2, 1, 'h', 3, 'g', 'e', 't', 0, 0, 1, 'h', 3, 'p', 'u', 't', 0, 1), a(3, 1, 2), a(4, 1, 112, 0, 3), a(5, 1, 1, 2, 3),
            a(6, 2, I, 1, 65, 0, 11, L, 0, 66, 0, 11), a(7, 1, 1, 'f', 0, 2), a(9, 1, 0, 65, 1, 11, 1, 2), Case.codeSection(32, 1, 11), a(11, 1, 0, 65, 0, 11, 1, 7));
        int[][] others = {head, Case.module(a(1, 1, 96, 0, 1, I), a(2, 1, 1, 'h', 3, 'p', 'u', 't', 0, 1)),
            Case.module(a(1, 1, 96, 0, 1, I), a(2, 1, 1, 'h', 3, 'g', 'e', 't', 0, 1)), Case.module(a(1, 1, 96, 0, 0), a(3, 1, 1)), Case.module(a(3, 1, 0)),
            Case.module(Case.codeSection(11)), Case.module(a(9, 1, 0, 65, 0, 11, 0)), Case.module(a(9, 1, 0, 65, 1, 11, 0)),
            Case.module(a(11, 1, 0, 65, 0, 11, 1, 7)), Case.module(a(7, 1, 1, 'f', 0, 0)), Case.module(a(7, 1, 1, 'g', 0, 2)),
            Case.module(a(1, 1, 96, 0, 0), a(3, 1, 0), Case.codeSection(32, 0, 26, 11)), Case.module(a(1, 1, 96, 0, 0), a(3, 1, 0), Case.codeSection(35, 0, 26, 11)),
            Case.module(a(1, 1, 96, 0, 0), a(3, 1, 0), Case.codeSection(63, 0, 26, 11)), Case.module(a(1, 1, 96, 0, 0), a(3, 1, 0), Case.codeSection(16, 1, 11)),
            Case.module(a(1, 1, 96, 0, 0), a(3, 1, 0), Case.codeSection(65, 0, 17, 0, 0, 11)),
            Case.module(a(1, 1, 96, 0, 0), a(3, 1, 0), Case.codeSection(65, 0, 65, 0, 17, 1, 0, 11))};
        String[] due = {"0: 0 at -1", "-1: 2 at 2", "-1: 2 at 2", "-1: 2 at 3", "-1: 2 at 3", "-1: 2 at 10", "0: 0 at -1", "-1: 2 at 9", "-1: 2 at 11", "-1: 2 at 7",
            "-1: 2 at 7", "-1: 3 at 0", "-1: 3 at 0", "-1: 3 at 0", "-1: 3 at 0", "-1: 3 at 1", "-1: 3 at 2"};
        for (int k = 0; k < others.length; k++) {
            Codekiln x = new Codekiln();
            Case.is("a new kiln and " + Arrays.toString(others[k]), readOf(x, others[k]), due[k]);
            x.clearModules();
            Case.is("the rich one", readOf(x, rich), "0: 0 at -1");
            x.clearModules();
            Case.is("behind the rich one " + Arrays.toString(others[k]), readOf(x, others[k]), due[k]);
            Case.is("the rich one again", readOf(x, rich), (due[k].startsWith("0") ? 1 : 0) + ": 0 at -1");
        }
    }

    /** Bytes that were refused, even deep in them, leave nothing behind. */
    private static void readsBehindWrongOnes() {
        int[] good = Case.module(a(1, 1, 96, 0, 1, I), a(3, 1, 0), Case.codeSection(65, 1, 65, 2, 65, 3, 26, 26, 11));
        int[] many = new int[101];
        for (int k = 0; k < 100; k += 2) {
            many[k] = 65;
        }
        many[100] = 11;
        int[] deep = new int[100];
        Arrays.fill(deep, 2);
        for (int k = 1; k < 100; k += 2) {
            deep[k] = 64;
        }
        int[] mixed = new int[122];
        for (int k = 0; k < 120; k += 2) {
            mixed[k] = 65;
        }
        mixed[120] = 126;
        mixed[121] = 11;
        int[][] wrong = {Case.module(a(1, 1, 96, 0, 1, I), a(3, 1, 0), Case.codeSection(mixed)), Case.module(a(1, 1, 96, 0, 1, I), a(3, 1, 0), Case.codeSection(many)), Case.module(a(1, 1, 96, 0, 1, I), a(3, 1, 0), Case.codeSection(deep)),
            Case.module(a(1, 1, 96, 0, 1, I), a(3, 1, 0), Case.codeSection(0, 2, 64, 0, 2, 64, 0, 3, 64, 106, 11)),
            Case.module(a(2, 1, 1, 'x', 3, 'g', 'e', 't', 0, 0)), Case.module(a(1, 1, 96, 0, 1, I), a(3, 1, 0), a(10, 1, 5, 1, 250, 1, I, 11))};
        for (int[] bytes : wrong) {
            Codekiln x = new Codekiln();
            for (int k = 0; k < 8; k++) {
                Case.is("read of a wrong one", readOf(x, bytes).startsWith("-1: "), true);
            }
            Case.is("a good one behind " + Arrays.toString(bytes), readOf(x, good), "0: 0 at -1");
            Case.is("instructions", x.functionAt(0, 0, 3), 6);
            Case.is("locals", x.functionAt(0, 0, 2), 0);
        }
        // Codes without functions are read, too, each by itself: 250 locals each.
        int[] codes = Case.module(a(10, 2, 5, 1, 250, 1, I, 11, 5, 1, 250, 1, L, 11));
        Codekiln x = new Codekiln();
        Case.is("codes without functions", readOf(x, codes), "-1: 2 at 10");
        Case.is("codes without functions again", readOf(x, codes), "-1: 2 at 10");
    }

    /** What is LIVE, used or alone in one function says nothing of the next one. */
    private static void passesBehindOthers() {
        int[] live = {1, 1, I, 3, 64, 32, 0, 26, 65, 1, 33, 0, 65, 0, 13, 0, 11, 11};
        int[] notLive = {1, 1, I, 3, 64, 1, 1, 1, 65, 1, 33, 0, 65, 0, 13, 0, 11, 11};
        int[] second = {1, 2, I, 32, 1, 26, 11};
        int[] first = {1, 2, I, 32, 0, 26, 11};
        int[] none = {1, 2, I, 11};
        int[] ahead = {1, 1, I, 65, 1, 33, 0, 3, 64, 32, 0, 26, 65, 0, 13, 0, 11, 11};
        int[] notAhead = {1, 1, I, 65, 1, 33, 0, 3, 64, 1, 1, 1, 65, 0, 13, 0, 11, 11};
        int[][] bodies = {ahead, notAhead, live, notLive, live, second, first, none, first, second, notLive};
        String[] stored = {"65.1 33.0 3.64 32.0 26 65.0 13.0 11 11", "65.1 26 3.64 1 1 1 65.0 13.0 11 11", "3.64 32.0 26 65.1 33.0 65.0 13.0 11 11", "3.64 1 1 1 65.1 26 65.0 13.0 11 11", "3.64 32.0 26 65.1 33.0 65.0 13.0 11 11", "32.1 26 11", "32.0 26 11",
            "11", "32.0 26 11", "32.1 26 11", "3.64 1 1 1 65.1 26 65.0 13.0 11 11"};
        int[] locals = {1, 0, 1, 0, 1, 1, 1, 0, 1, 1, 0};
        int size = 2;
        for (int[] body : bodies) {
            size += body.length + 1;
        }
        int[] codes = new int[size];
        codes[0] = 10;
        codes[1] = bodies.length;
        int at = 2;
        for (int[] body : bodies) {
            codes[at] = body.length;
            System.arraycopy(body, 0, codes, at + 1, body.length);
            at += body.length + 1;
        }
        int[] functions = new int[bodies.length + 2];
        functions[0] = 3;
        functions[1] = bodies.length;
        Codekiln x = new Codekiln();
        Case.is("read", readOf(x, Case.module(a(1, 1, 96, 0, 0), functions, codes)), "0: 0 at -1");
        x.pass(0, 5);
        x.pass(0, 6);
        x.pass(1, 6);
        for (int f = 0; f < bodies.length; f++) {
            Case.is("STORES in " + f, Case.code(x, 1, f), stored[f]);
            Case.is("locals behind STORES", x.functionAt(1, f, 2), bodies[f][1]);
            Case.is("locals behind SHARE in " + f, x.functionAt(2, f, 2), bodies[f] == none ? 0 : 1);
            Case.is("locals behind both in " + f, x.functionAt(3, f, 2), locals[f]);
        }
        Case.is("SHARE gives it its new number", Case.code(x, 2, 5), "32.0 26 11");
        conflictsBehindOthers();
    }

    /** 130 locals that are LIVE at once, and behind them 130 that are so one behind the other. */
    private static void conflictsBehindOthers() {
        int locals = 130;
        byte[] all = new byte[4000];
        int at = 0;
        for (int b : Case.module(a(1, 1, 96, 0, 0), a(3, 4, 0, 0, 0, 0))) {
            all[at++] = (byte) b;
        }
        byte[][] codes = {setAndGot(locals, true), setAndGot(locals, false), setAndGot(locals, true), setAndGot(locals, false)};
        int whole = 1;
        for (byte[] code : codes) {
            whole += code.length + 2;
        }
        all[at++] = 10;
        all[at++] = (byte) (whole & 127 | 128);
        all[at++] = (byte) (whole >> 7);
        all[at++] = 4;
        for (byte[] code : codes) {
            all[at++] = (byte) (code.length & 127 | 128);
            all[at++] = (byte) (code.length >> 7);
            System.arraycopy(code, 0, all, at, code.length);
            at += code.length;
        }
        Codekiln x = new Codekiln();
        Case.addAll(x, Arrays.copyOf(all, at));
        Case.is("read at " + x.fault(false), x.read(), 0);
        x.pass(0, 6);
        for (int f = 0; f < 4; f++) {
            Case.is("locals behind SHARE in " + f, x.functionAt(1, f, 2), f % 2 == 0 ? locals : 1);
        }
    }

    private static byte[] setAndGot(int locals, boolean isAtOnce) {
        byte[] code = new byte[1000];
        int at = 0;
        code[at++] = 1;
        code[at++] = (byte) (locals & 127 | 128);
        code[at++] = (byte) (locals >> 7);
        code[at++] = I;
        for (int k = 0; k < 2 * locals; k++) {
            boolean isSet = isAtOnce ? k < locals : k % 2 == 0;
            int local = isAtOnce ? k % locals : k / 2;
            if (isSet) {
                code[at++] = 65;
                code[at++] = 7;
            }
            code[at++] = (byte) (isSet ? 33 : 32);
            code[at++] = (byte) (local < 128 ? local : local & 127 | 128);
            if (local >= 128) {
                code[at++] = (byte) (local >> 7);
            }
            if (!isSet) {
                code[at++] = 26;
            }
        }
        code[at++] = 11;
        return Arrays.copyOf(code, at);
    }

    /** A run in the place of a dropped one begins anew. */
    private static void runsBehindOthers() {
        String text = "int g=2;int f(int n){if(n>0)return f(n-1)+1;g=g+5;put(g);return get();}int z(int n){return n/(n-n);}int w(int n){while(1)put(n);return 1;}";
        int[][] calls = {{0, 0}, {0, 9}, {0, 70}, {1, 3}, {2, 1}, {2, 2}};
        for (int[] one : calls) {
            for (int[] two : calls) {
                Codekiln x = Case.made(text);
                x.feed(4);
                x.begin(0, one[0], one[1], 0, 0);
                x.step(0, 2000);
                x.dropRun(0);
                String got = run(x, two);
                Codekiln y = Case.made(text);
                y.feed(4);
                Case.is("run of " + Arrays.toString(two) + " behind that of " + Arrays.toString(one), got, run(y, two));
            }
        }
    }

    private static String run(Codekiln x, int[] call) {
        StringBuilder all = new StringBuilder();
        all.append(x.begin(0, call[0], call[1], 0, 0));
        for (int what = 0; what < 12; what++) {
            all.append(' ').append(x.runAt(0, what));
        }
        all.append(" | ").append(x.step(0, 500));
        for (int what = 0; what < 12; what++) {
            all.append(' ').append(x.runAt(0, what));
        }
        for (int k = 0; k < x.runAt(0, 5) && k < 100; k++) {
            all.append(' ').append(x.outAt(0, k));
        }
        return all.append(' ').append(x.globalAt(0, 0)).append(' ').append(x.memoryAt(0, 16)).append(' ').append(x.runAt(0, 0) == 1 ? x.value(0) : -7).toString();
    }

    /** Each piece is the text that the document tells, and does what it says. */
    private static void piecesAreTexts() {
        String[] texts = {"int fact(int n){if(n<2)return 1;return n*fact(n-1);}", "int gcd(int a,int b){while(b){int t=a%b;a=b;b=t;}return a;}",
            "int a[10];int fill(int n){int i;for(i=0;i<10;i++)a[i]=n*i;return a[9];}",
            "char w[12]=\"hello\";int len(char *p){int n=0;while(*p++)n++;return n;}int hlen(){return len(w);}",
            "int inc(int x){return x+1;}int twice(int (*f)(int),int x){return f(f(x));}int two(int x){return twice(inc,x);}",
            "int sw(int n){switch(n){case 1:put(10);case 2:put(20);break;case 7:return 7;default:put(-1);}return 0;}",
            "long mix(long x,int k){while(k-->0){x=x*1103515245L+12345L;x^=x>>33;}return x;}",
            "int sum(){int t=0;int x;while((x=get())!=-1)t+=x;return t;}int sq(int x){return x*x;}int hyp(int a,int b){return sq(a)+sq(b);}"};
        long[][] asked = {{0, 10, 0, 3628800}, {0, 84, 36, 12}, {0, 7, 0, 63}, {1, 0, 0, 5}, {2, 5, 0, 7}, {0, 7, 0, 7}, {0, 1, 1, 1103515245L + 12345L},
            {2, 3, 4, 25}};
        for (int k = 0; k < 8; k++) {
            Codekiln x = new Codekiln();
            Case.is("length of piece " + k, x.piece(k), texts[k].length());
            Case.is("fault of piece " + k, x.faultKind(), 0);
            x.load();
            Case.put(x, texts[k]);
            x.load();
            for (int what = 0; what < 4; what++) {
                Case.is("programIs " + what, x.programIs(0, what), x.programIs(1, what));
            }
            for (int place = 0; place < 80; place++) {
                Case.is("firstByte " + place, x.firstByte(0, place), x.firstByte(1, place));
            }
            x.make(0);
            x.make(1);
            Case.is("module of piece " + k, x.same(0, 1), true);
            for (int f = 0; f < x.programIs(0, 0); f++) {
                Case.is("code", Case.code(x, 0, f + 2), Case.code(x, 1, f + 2));
            }
            Case.is("mean", x.mean(0, (int) asked[k][0], asked[k][1], asked[k][2], 0), 0);
            Case.is("value of piece " + k, x.meant(0), asked[k][3]);
            Case.is("agree", x.agree(0, (int) asked[k][0], 127, asked[k][1], asked[k][2], 0), 1);
        }
    }
}
