import java.util.Arrays;

/** Promises 11 and 12: the passes. */
public final class PassTest {
    public static void main(String[] args) {
        peepPairs();
        peepConsts();
        peepTests();
        peepOrder();
        inline();
        inlineLimits();
        dead();
        blocks();
        jumps();
        stores();
        share();
        severalPasses();
        numbersOfModules();
        Case.end();
    }

    /** A module of one function of i32, i64 and i32, with two locals more of each SORT, a memory and a global. */
    static Codekiln read(int... code) {
        int[] body = new int[code.length + 5];
        body[0] = 2;
        body[1] = 2;
        body[2] = 127;
        body[3] = 2;
        body[4] = 126;
        System.arraycopy(code, 0, body, 5, code.length);
        boolean isLong = body.length > 127;
        int[] codes = isLong ? new int[] {10, 1, body.length & 127 | 128, body.length >> 7} : new int[] {10, 1, body.length};
        int head = codes.length;
        codes = Arrays.copyOf(codes, head + body.length);
        System.arraycopy(body, 0, codes, head, body.length);
        Codekiln x = new Codekiln();
        Case.setBytes(x, Case.module(new int[] {1, 1, 96, 2, 127, 126, 1, 127}, new int[] {3, 1, 0},
            new int[] {5, 1, 1, 1, 2}, new int[] {6, 1, 127, 1, 65, 7, 11}, new int[] {7, 1, 1, 'f', 0, 0}, codes));
        if (x.read() != 0) {
            Case.is("read of " + Arrays.toString(code) + " at " + x.fault(false), x.fault(true), 0);
        }
        return x;
    }

    static void pass(int which, String want, int... code) {
        Codekiln x = read(code);
        String before = Case.code(x, 0, 0);
        Case.is("isSteady", x.isSteady(0, which), true);
        x.pass(0, which);
        Case.is("pass " + which + " of " + before, Case.code(x, 1, 0), want);
        Case.is("the module itself", Case.code(x, 0, 0), before);
        Case.is("read, not of a program", x.moduleIs(1, 9), 0);
        Case.is("errors", x.errors(), 0);
        for (int a = -1; a < 2; a++) {
            int alike = x.alike(0, 0, 1 << which, a, 5, 0);
            Case.is("alike by pass " + which + " of " + before, alike == 1 || alike == 2, true);
        }
    }

    private static void peep(String want, int... code) {
        pass(1, want, code);
    }

    private static void peepPairs() {
        peep("32.0 11", 1, 32, 0, 1, 11);
        peep("65.5 34.0 11", 65, 5, 33, 0, 32, 0, 11);
        peep("65.5 33.0 32.2 11", 65, 5, 33, 0, 32, 2, 11);
        peep("32.2 33.0 65.1 11", 32, 2, 34, 0, 26, 65, 1, 11);
        peep("65.1 11", 32, 0, 26, 66, 1, 26, 65, 1, 26, 35, 0, 26, 63, 0, 26, 65, 1, 11);
        peep("65.0 45.0 26 65.1 11", 65, 0, 45, 0, 0, 26, 65, 1, 11);
        peep("65.1 11", 32, 0, 33, 0, 65, 1, 11);
        peep("32.0 33.2 65.1 11", 32, 0, 33, 2, 65, 1, 11);
        peep("32.0 11", 32, 0, 34, 0, 11);
        peep("32.0 34.2 11", 32, 0, 34, 2, 11);
    }

    private static void peepConsts() {
        peep("65.2 11", 65, 7, 65, 5, 107, 11);
        peep("65.1 11", 66, 1, 66, 2, 83, 11);
        peep("65.0 11", 65, 1, 65, 127, 77, 69, 11);
        peep("65.1 11", 65, 127, 65, 1, 75, 11);
        peep("65.-2 11", 65, 123, 65, 2, 109, 11);
        peep("65.-1 11", 65, 123, 65, 2, 111, 11);
        peep("65.3 65.0 109 11", 65, 3, 65, 0, 109, 11);
        peep("65.-2147483648 65.-1 109 11", 65, 128, 128, 128, 128, 120, 65, 127, 109, 11);
        peep("65.0 11", 65, 128, 128, 128, 128, 120, 65, 127, 111, 11);
        peep("65.1 11", 65, 127, 65, 31, 118, 11);
        peep("65.-2147483648 11", 65, 1, 65, 31, 116, 11);
        peep("65.3 11", 66, 3, 66, 192, 0, 134, 167, 11);
        peep("65.1 11", 65, 0, 69, 11);
        peep("65.0 11", 66, 5, 80, 11);
        peep("65.-1 11", 65, 127, 172, 167, 11);
        peep("66.-1 33.1 65.0 11", 65, 127, 172, 33, 1, 65, 0, 11);
        for (int op : new int[] {106, 107, 114, 115, 116, 117, 118}) {
            peep("32.0 11", 32, 0, 65, 0, op, 11);
            peep("32.1 167 11", 32, 1, 66, 0, op + 18, 167, 11);
        }
        for (int op : new int[] {108, 111, 113}) {
            peep("32.0 65.0 " + op + " 11", 32, 0, 65, 0, op, 11);
        }
        peep("32.0 11", 32, 0, 65, 1, 108, 65, 1, 109, 65, 127, 113, 11);
        peep("32.1 167 11", 32, 1, 66, 1, 126, 66, 1, 127, 66, 127, 131, 167, 11);
        peep("32.0 65.1 111 65.-1 114 65.1 106 11", 32, 0, 65, 1, 111, 65, 127, 114, 65, 1, 106, 11);
        peep("32.0 69 11", 32, 0, 65, 0, 70, 11);
        peep("32.1 80 11", 32, 1, 66, 0, 81, 11);
        peep("32.0 65.1 116 11", 32, 0, 65, 2, 108, 11);
        peep("32.0 65.30 116 11", 32, 0, 65, 128, 128, 128, 128, 4, 108, 11);
        peep("32.0 65.-2147483648 108 11", 32, 0, 65, 128, 128, 128, 128, 120, 108, 11);
        peep("32.0 65.6 108 11", 32, 0, 65, 6, 108, 11);
        peep("32.1 66.32 134 167 11", 32, 1, 66, 128, 128, 128, 128, 16, 126, 167, 11);
        peep("32.1 66.62 134 167 11", 32, 1, 66, 128, 128, 128, 128, 128, 128, 128, 128, 192, 0, 126, 167, 11);
        peep("32.1 66.-9223372036854775808 126 167 11",
            32, 1, 66, 128, 128, 128, 128, 128, 128, 128, 128, 128, 127, 126, 167, 11);
        peep("32.0 11", 32, 0, 172, 167, 11);
        peep("32.1 167 11", 32, 1, 167, 172, 167, 11);
    }

    private static void peepTests() {
        peep("32.0 69 11", 32, 0, 69, 65, 0, 71, 11);
        peep("32.1 66.3 83 11", 32, 1, 66, 3, 83, 65, 0, 71, 11);
        peep("32.0 65.0 71 11", 32, 0, 65, 0, 71, 11);
        peep("32.0 4.64 11 65.1 11", 32, 0, 65, 0, 71, 4, 64, 1, 11, 65, 1, 11);
        peep("2.64 32.0 13.0 11 65.1 11", 2, 64, 32, 0, 65, 0, 71, 13, 0, 11, 65, 1, 11);
        peep("32.0 69 11", 32, 0, 65, 0, 71, 69, 11);
        peep("32.0 4.64 11 65.1 11", 32, 0, 69, 69, 4, 64, 11, 65, 1, 11);
        peep("2.64 32.0 13.0 11 65.1 11", 2, 64, 32, 0, 69, 69, 13, 0, 11, 65, 1, 11);
        peep("32.0 69 69 11", 32, 0, 69, 69, 11);
        peep("32.1 80 69 4.64 11 65.1 11", 32, 1, 80, 69, 4, 64, 11, 65, 1, 11);
        int[] contrary = {71, 70, 78, 79, 76, 77, 74, 75, 72, 73};
        for (int k = 0; k < 10; k++) {
            peep("32.0 65.5 " + contrary[k] + " 11", 32, 0, 65, 5, 70 + k, 69, 11);
            peep("32.1 66.5 " + (contrary[k] + 11) + " 11", 32, 1, 66, 5, 81 + k, 69, 11);
        }
        peep("65.8 32.0 58.0 65.1 11", 65, 8, 32, 0, 65, 255, 1, 113, 58, 0, 0, 65, 1, 11);
        peep("65.8 32.0 58.0 65.1 11", 65, 8, 32, 0, 65, 255, 3, 113, 58, 0, 0, 65, 1, 11);
        peep("65.8 32.0 65.127 113 58.0 65.1 11", 65, 8, 32, 0, 65, 255, 0, 113, 58, 0, 0, 65, 1, 11);
        peep("32.0 45.3 11", 32, 0, 45, 0, 3, 65, 255, 1, 113, 11);
        peep("32.0 45.3 65.254 113 11", 32, 0, 45, 0, 3, 65, 254, 1, 113, 11);
        peep("32.0 40.3 65.255 113 11", 32, 0, 40, 2, 3, 65, 255, 1, 113, 11);
        peep("2.64 12.0 11 65.1 11", 2, 64, 65, 9, 13, 0, 11, 65, 1, 11);
        peep("2.64 11 65.1 11", 2, 64, 65, 0, 13, 0, 11, 65, 1, 11);
        peep("2.64 32.0 33.2 11 65.1 11", 65, 3, 4, 64, 32, 0, 33, 2, 5, 32, 2, 33, 0, 11, 65, 1, 11);
        peep("2.64 32.2 33.0 11 65.1 11", 65, 0, 4, 64, 32, 0, 33, 2, 5, 32, 2, 33, 0, 11, 65, 1, 11);
        peep("2.64 32.0 33.2 11 65.1 11", 65, 3, 4, 64, 32, 0, 33, 2, 11, 65, 1, 11);
        peep("65.1 11", 65, 0, 4, 64, 32, 0, 4, 64, 5, 11, 32, 0, 33, 2, 11, 65, 1, 11);
        peep("2.127 32.0 11 11", 65, 3, 4, 127, 32, 0, 5, 32, 2, 11, 11);
        peep("2.127 32.0 4.64 5 11 32.2 11 11", 65, 0, 4, 127, 32, 0, 5, 32, 0, 4, 64, 5, 11, 32, 2, 11, 11);
    }

    private static void peepOrder() {
        // The first instruction comes first, then the letters: what went lets what stands ahead fit.
        peep("65.1 11", 65, 1, 65, 2, 26, 26, 65, 1, 11);
        peep("65.6 11", 65, 1, 65, 2, 65, 3, 106, 106, 11);
        peep("32.0 65.3 116 65.4 106 11", 32, 0, 65, 2, 65, 4, 108, 108, 65, 4, 106, 11);
        peep("32.0 69 11", 32, 0, 65, 1, 65, 1, 107, 70, 11);
        peep("32.0 34.2 11", 32, 0, 33, 2, 1, 32, 2, 11);
    }

    private static void inline() {
        Codekiln x = Case.made("int g(int a){return a+1;}int f(int x){return g(x)*2;}");
        x.pass(0, 0);
        Case.is("f", Case.code(x, 1, 3), "32.0 33.1 2.127 32.1 65.1 106 12.0 65.0 11 65.2 108 15 65.0 11");
        Case.is("g", Case.code(x, 1, 2), Case.code(x, 0, 2));
        Case.is("locals of f", Case.locals(x, 1, 3), "[127, 127]");
        Case.is("of a program", x.moduleIs(1, 9), 1);
        Codekiln y = Case.made("void g(long a,int b){long c;int d;while(b){if(b)return;b=d;}}"
            + "int f(){int e;if(e)g(1L,e);g(2L,3);return 0;}");
        y.pass(0, 0);
        Case.is("locals of f", Case.locals(y, 1, 3), "[127, 126, 127, 126, 127, 126, 127, 126, 127]");
        Case.is("f", Case.code(y, 1, 3), "32.0 4.64 66.1 32.0 33.2 33.1 66.0 33.3 65.0 33.4 2.64"
            + " 2.64 3.64 32.2 69 13.1 2.64 32.2 4.64 12.4 11 32.4 34.2 26 11 12.0 11 11 11 11"
            + " 66.2 65.3 33.6 33.5 66.0 33.7 65.0 33.8 2.64"
            + " 2.64 3.64 32.6 69 13.1 2.64 32.6 4.64 12.4 11 32.8 34.6 26 11 12.0 11 11 11"
            + " 65.0 15 65.0 11");
        Case.is("alike", y.alike(0, 1, 1, 0, 0, 0), 1);
        // Again and again: what was no leaf becomes one; imports are no leaves; none goes into itself.
        Codekiln z = Case.made("int g(int a){return a;}int h(int a){return g(a)+1;}int k(int a){return h(a)+2;}"
            + "int l(){return get();}int m(){return l();}int r(int a){return a?r(a-1):0;}int q(){return r(3);}");
        z.pass(0, 0);
        for (int f = 2; f < 9; f++) {
            boolean hasCalls = f > 4;
            boolean has = (" " + Case.code(z, 1, f)).contains(" 16.");
            Case.is("calls in the function " + f, has, hasCalls);
        }
        Case.is("alike", z.alike(0, 2, 1, 5, 0, 0), 1);
        // br_table keeps its places, and what goes to the function goes to the block.
        Codekiln w = Case.made("int g(int n){switch(n){case 0:return 5;case 1:return 6;}return 7;}"
            + "int f(int n){return g(n);}int k(int n){while(n)if(g(n)==7)return 1;else n=0;return 2;}");
        w.pass(0, 0);
        for (int n = 0; n < 3; n++) {
            Case.is("alike", w.alike(0, 1, 1, n, 0, 0), 1);
            Case.is("alike", w.alike(0, 2, 127, n, 0, 0), 1);
        }
    }

    /** A module: function 0 of nothing and nothing, of so many nops and more locals; function 1 calls it often. */
    static Codekiln calling(int nops, int locals, int calls, int callerLocals, int deep) {
        java.util.ArrayList<Integer> bytes = new java.util.ArrayList<>();
        for (int b : Case.module(new int[] {1, 1, 96, 0, 0}, new int[] {3, 2, 0, 0}, new int[] {7, 1, 1, 'f', 0, 1})) {
            bytes.add(b);
        }
        java.util.ArrayList<Integer> one = new java.util.ArrayList<>();
        body(one, locals, nops, 1, 0);
        java.util.ArrayList<Integer> two = new java.util.ArrayList<>();
        body(two, callerLocals, calls, 16, deep);
        java.util.ArrayList<Integer> all = new java.util.ArrayList<>();
        all.add(2);
        number(all, one.size());
        all.addAll(one);
        number(all, two.size());
        all.addAll(two);
        bytes.add(10);
        number(bytes, all.size());
        bytes.addAll(all);
        Codekiln x = new Codekiln();
        for (int b : bytes) {
            x.bytes(b, 1);
        }
        Case.is("read at " + x.fault(false), x.read(), 0);
        return x;
    }

    private static void number(java.util.ArrayList<Integer> to, int number) {
        int rest = number;
        while (rest > 127) {
            to.add(rest & 127 | 128);
            rest >>= 7;
        }
        to.add(rest);
    }

    private static void body(java.util.ArrayList<Integer> to, int locals, int many, int op, int deep) {
        to.add(locals > 0 ? 1 : 0);
        if (locals > 0) {
            number(to, locals);
            to.add(127);
        }
        for (int k = 0; k < deep; k++) {
            to.add(2);
            to.add(64);
        }
        for (int k = 0; k < many; k++) {
            to.add(op);
            if (op == 16) {
                to.add(0);
            }
        }
        for (int k = 0; k <= deep; k++) {
            to.add(11);
        }
    }

    private static void inlineLimits() {
        Codekiln x = calling(29, 0, 1, 0, 0);
        x.pass(0, 0);
        Case.is("a leaf of 30", x.countOf(1, 16), 0);
        Codekiln y = calling(30, 0, 1, 0, 0);
        y.pass(0, 0);
        Case.is("none of 31", y.countOf(1, 16), 1);
        // A call of a leaf of 30 makes 31 of 1: 49 calls and the end make 1 + 49 * 31 = 1520.
        Codekiln z = calling(29, 0, 49, 0, 0);
        z.pass(0, 0);
        Case.is("calls that stay", z.countOf(1, 16), 1);
        Case.is("instructions", z.functionAt(1, 1, 3), 48 * 31 + 1 + 1);
        Codekiln w = calling(9, 0, 143, 0, 0);
        w.pass(0, 0);
        // A call of a leaf of 10 makes 11 of 1: 144 + 135 * 10 = 1494, one more would be 1504.
        Case.is("calls that stay", w.countOf(1, 16), 8);
        Case.is("instructions", w.functionAt(1, 1, 3), 1494);
        Codekiln v = calling(2, 40, 3, 80, 0);
        v.pass(0, 0);
        Case.is("200 locals", v.functionAt(1, 1, 2), 200);
        Codekiln u = calling(2, 40, 3, 81, 0);
        u.pass(0, 0);
        Case.is("no more than 200 locals", u.functionAt(1, 1, 2), 161);
        Codekiln t = calling(2, 0, 1, 0, 199);
        t.pass(0, 0);
        Case.is("200 open", t.countOf(1, 16), 0);
        Codekiln s = calling(2, 0, 1, 0, 200);
        s.pass(0, 0);
        Case.is("no more than 200 open", s.countOf(1, 16), 1);
        Case.is("errors", s.errors(), 0);
    }

    private static void dead() {
        pass(2, "65.1 15 11", 65, 1, 15, 65, 2, 26, 65, 3, 11);
        pass(2, "0 11", 0, 2, 64, 3, 64, 12, 0, 11, 1, 11, 65, 3, 11);
        pass(2, "2.64 12.0 11 65.1 11", 2, 64, 12, 0, 32, 0, 4, 64, 1, 5, 1, 11, 11, 65, 1, 11);
        pass(2, "32.0 4.64 12.0 5 0 11 65.1 11", 32, 0, 4, 64, 12, 0, 1, 5, 0, 1, 1, 11, 65, 1, 11);
        pass(2, "2.64 32.0 14.0,0 11 65.1 11", 2, 64, 32, 0, 14, 1, 0, 0, 1, 11, 65, 1, 11);
        pass(2, "2.64 32.0 13.0 1 11 65.1 11", 2, 64, 32, 0, 13, 0, 1, 11, 65, 1, 11);
    }

    private static void blocks() {
        pass(3, "65.1 11", 2, 64, 11, 3, 64, 11, 65, 1, 11);
        pass(3, "32.0 26 65.1 11", 32, 0, 4, 64, 11, 65, 1, 11);
        pass(3, "32.0 26 65.1 11", 32, 0, 4, 64, 5, 11, 65, 1, 11);
        pass(3, "32.0 26 65.1 11", 32, 0, 4, 64, 2, 64, 11, 5, 3, 64, 11, 11, 65, 1, 11);
        pass(3, "32.0 4.64 1 11 65.1 11", 32, 0, 4, 64, 1, 5, 11, 65, 1, 11);
        pass(3, "32.0 4.64 5 1 11 65.1 11", 32, 0, 4, 64, 5, 1, 11, 65, 1, 11);
        pass(3, "65.1 11", 2, 127, 65, 1, 11, 11);
        pass(3, "2.64 32.0 13.0 11 65.1 11", 2, 64, 32, 0, 13, 0, 11, 65, 1, 11);
        pass(3, "2.64 32.0 13.0 32.0 13.0 11 65.1 11", 2, 64, 2, 64, 32, 0, 13, 1, 3, 64, 32, 0, 13, 2, 11, 11, 11, 65, 1, 11);
        pass(3, "3.64 32.0 4.64 12.1 11 11 65.1 11", 3, 64, 2, 64, 32, 0, 4, 64, 12, 2, 11, 11, 11, 65, 1, 11);
        pass(3, "2.64 32.0 14.0,0,0 11 65.1 11", 2, 64, 2, 64, 32, 0, 14, 2, 1, 1, 1, 11, 11, 65, 1, 11);
        pass(3, "2.64 2.64 32.0 14.0,1,0 11 11 65.1 11", 2, 64, 2, 64, 2, 64, 32, 0, 14, 2, 1, 2, 1, 11, 11, 11, 65, 1, 11);
        pass(3, "65.1 12.0 65.2 11", 2, 64, 65, 1, 12, 1, 11, 65, 2, 11);
    }

    private static void jumps() {
        pass(4, "2.64 2.64 12.1 11 12.0 11 65.1 11", 2, 64, 2, 64, 12, 0, 11, 12, 0, 11, 65, 1, 11);
        pass(4, "3.64 2.64 32.0 13.1 11 12.0 11 65.1 11", 3, 64, 2, 64, 32, 0, 13, 0, 11, 12, 0, 11, 65, 1, 11);
        pass(4, "2.64 32.0 4.64 12.1 5 1 11 12.0 11 65.1 11", 2, 64, 32, 0, 4, 64, 12, 0, 5, 1, 11, 12, 0, 11, 65, 1, 11);
        pass(4, "2.64 2.64 2.64 12.2 11 12.1 11 12.0 11 65.1 11",
            2, 64, 2, 64, 2, 64, 12, 0, 11, 12, 0, 11, 12, 0, 11, 65, 1, 11);
        pass(4, "2.64 12.0 11 65.1 12.0 11", 2, 64, 12, 0, 11, 65, 1, 12, 0, 11);
        // br m that takes a value, what goes to a loop, and a br_table stay.
        pass(4, "65.1 2.64 12.0 11 12.0 11", 65, 1, 2, 64, 12, 0, 11, 12, 0, 11);
        pass(4, "2.64 3.64 12.0 11 12.0 11 65.1 11", 2, 64, 3, 64, 12, 0, 11, 12, 0, 11, 65, 1, 11);
        pass(4, "2.64 2.64 32.0 14.0,0 11 12.0 11 65.1 11", 2, 64, 2, 64, 32, 0, 14, 1, 0, 0, 11, 12, 0, 11, 65, 1, 11);
        pass(4, "2.64 2.127 65.1 12.0 11 26 12.0 11 65.1 11", 2, 64, 2, 127, 65, 1, 12, 0, 11, 26, 12, 0, 11, 65, 1, 11);
        pass(4, "2.64 2.64 12.0 11 1 12.0 11 65.1 11", 2, 64, 2, 64, 12, 0, 11, 1, 12, 0, 11, 65, 1, 11);
    }

    private static void stores() {
        pass(5, "65.1 26 65.1 11", 65, 1, 33, 2, 65, 1, 11);
        pass(5, "65.1 11", 65, 1, 34, 2, 11);
        pass(5, "65.1 33.2 32.2 11", 65, 1, 33, 2, 32, 2, 11);
        pass(5, "65.1 26 65.2 33.2 32.2 11", 65, 1, 33, 2, 65, 2, 33, 2, 32, 2, 11);
        pass(5, "65.1 33.2 32.0 4.64 65.2 33.2 11 32.2 11", 65, 1, 33, 2, 32, 0, 4, 64, 65, 2, 33, 2, 11, 32, 2, 11);
        pass(5, "65.1 26 32.0 4.64 65.2 33.2 5 65.3 33.2 11 32.2 11",
            65, 1, 33, 2, 32, 0, 4, 64, 65, 2, 33, 2, 5, 65, 3, 33, 2, 11, 32, 2, 11);
        pass(5, "3.64 32.2 33.0 65.1 33.2 32.0 13.0 11 65.1 11", 3, 64, 32, 2, 33, 0, 65, 1, 33, 2, 32, 0, 13, 0, 11, 65, 1, 11);
        pass(5, "2.64 65.1 33.2 32.0 13.0 65.2 33.2 11 32.2 11", 2, 64, 65, 1, 33, 2, 32, 0, 13, 0, 65, 2, 33, 2, 11, 32, 2, 11);
        pass(5, "65.1 26 65.5 15 32.2 11", 65, 1, 33, 2, 65, 5, 15, 32, 2, 11);
    }

    private static void share() {
        Codekiln x = read(65, 1, 33, 2, 32, 2, 26, 65, 2, 33, 3, 32, 3, 11);
        x.pass(0, 6);
        // Both go together with the parameter, which no one gets any more; those of i64 are not there any more.
        Case.is("code", Case.code(x, 1, 0), "65.1 33.0 32.0 26 65.2 33.0 32.0 11");
        Case.is("locals", Case.locals(x, 1, 0), "[127, 126]");
        Case.is("locals of the module itself", Case.locals(x, 0, 0), "[127, 126, 127, 127, 126, 126]");
        pass(6, "65.1 33.2 65.2 33.3 32.0 32.2 106 32.3 106 11",
            65, 1, 33, 2, 65, 2, 33, 3, 32, 0, 32, 2, 106, 32, 3, 106, 11);
        pass(6, "65.1 33.2 32.0 32.2 106 65.2 33.0 32.0 106 11",
            65, 1, 33, 2, 32, 0, 32, 2, 106, 65, 2, 33, 3, 32, 3, 106, 11);
        // One that is LIVE as the function begins has to be 0: it goes with no parameter.
        pass(6, "32.2 11", 32, 3, 11);
        pass(6, "32.3 32.2 106 11", 32, 3, 32, 2, 106, 11);
        // One is set while the other one is LIVE; a set that no one gets conflicts, too.
        pass(6, "65.1 33.2 65.2 33.3 32.2 32.0 106 11", 65, 1, 33, 2, 65, 2, 33, 3, 32, 2, 32, 0, 106, 11);
        pass(6, "66.1 33.1 32.1 167 11", 66, 1, 33, 5, 32, 5, 167, 11);
        Codekiln y = read(66, 1, 33, 5, 32, 5, 32, 1, 124, 167, 11);
        y.pass(0, 6);
        Case.is("code", Case.code(y, 1, 0), "66.1 33.2 32.2 32.1 124 167 11");
        Case.is("locals", Case.locals(y, 1, 0), "[127, 126, 126]");
    }

    private static void severalPasses() {
        Codekiln x = new Codekiln();
        x.piece(4);
        x.piece(5);
        x.load();
        x.make(0);
        x.passes(0, 127);
        int last = 0;
        for (int k = 0; k < 7; k++) {
            last = x.pass(last, k);
        }
        Case.is("passes() is pass() after pass()", x.same(1, last), true);
        Case.is("no passes", x.same(0, x.passes(0, 0)), true);
        Case.is("shorter", x.moduleIs(1, 12) < x.moduleIs(0, 12), true);
        for (int k = 0; k < 7; k++) {
            Case.is("isSteady(0, " + k + ")", x.isSteady(0, k), true);
            Case.is("isSteady(1, " + k + ")", x.isSteady(1, k), true);
        }
        Case.is("of a program", x.moduleIs(1, 9), 1);
        Case.is("errors", x.errors(), 0);
    }

    private static void numbersOfModules() {
        Codekiln x = Case.made("int f(){return 1;}");
        Case.noIndex("pass(1, 9)", () -> x.pass(1, 9));
        Case.noIndex("pass(-1, 0)", () -> x.pass(-1, 0));
        Case.noArgument("pass(0, 7)", () -> x.pass(0, 7));
        Case.noArgument("pass(0, -1)", () -> x.pass(0, -1));
        Case.noIndex("passes(1, 999)", () -> x.passes(1, 999));
        Case.noArgument("passes(0, 128)", () -> x.passes(0, 128));
        Case.noArgument("passes(0, -1)", () -> x.passes(0, -1));
        Case.noIndex("isSteady(1, 9)", () -> x.isSteady(1, 9));
        Case.noArgument("isSteady(0, 7)", () -> x.isSteady(0, 7));
        Case.noArgument("isSteady(0, -1)", () -> x.isSteady(0, -1));
        for (int k = 1; k < 12; k++) {
            Case.is("pass or passes", k % 2 == 0 ? x.pass(0, 1) : x.passes(0, 2), k);
        }
        Case.noState("pass beside 12", () -> x.pass(0, 0));
        Case.noState("passes beside 12", () -> x.passes(0, 0));
        Case.noArgument("pass(0, 7) beside 12", () -> x.pass(0, 7));
        Case.noArgument("passes(0, 128) beside 12", () -> x.passes(0, 128));
        Case.is("isSteady beside 12", x.isSteady(11, 0), true);
    }
}
