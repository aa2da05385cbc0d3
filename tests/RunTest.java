/** Promises 20 to 24: the machine. */
public final class RunTest {
    private static final int GOING = 0;
    private static final int ENDED = 1;

    public static void main(String[] args) {
        steps();
        values();
        numeric();
        control();
        memory();
        tables();
        traps();
        deep();
        input();
        dropping();
        beginning();
        wrongArguments();
        Case.end();
    }

    /** A module of one function (of i32 and i64 an i32, exported), a memory, a table of itself, two globals. */
    private static Codekiln read(int... code) {
        Codekiln x = new Codekiln();
        Case.setBytes(x, Case.module(new int[] {1, 3, 96, 2, 127, 126, 1, 127, 96, 1, 127, 0, 96, 0, 0}, new int[] {3, 1, 0},
            new int[] {4, 1, 112, 0, 3}, new int[] {5, 1, 1, 1, 3}, new int[] {6, 2, 127, 1, 65, 7, 11, 126, 1, 66, 9, 11},
            new int[] {7, 1, 1, 'f', 0, 0}, new int[] {9, 1, 0, 65, 1, 11, 1, 0}, Case.codeSection(code),
            new int[] {11, 2, 0, 65, 16, 11, 3, 1, 2, 3, 0, 65, 17, 11, 1, 200}));
        Case.is("read at " + x.fault(false), x.read(), 0);
        return x;
    }

    private static void run(long want, long a, long b, int... code) {
        Codekiln x = read(code);
        x.begin(0, 0, a, b, 0);
        x.step(0, 40000);
        Case.is("state of " + Case.code(x, 0, 0), x.runAt(0, 0), ENDED);
        if (x.runAt(0, 0) == ENDED) {
            Case.is("value of " + Case.code(x, 0, 0), x.value(0), want);
        }
        Case.is("alike", x.alike(0, 0, 127, a, b, 0), 1);
    }

    private static void steps() {
        Codekiln x = Case.made("int g(int a,long b){int c=a;put(c);return a+b;}int f(int a){int b=a*2;return g(b,5L)+1;}");
        x.feed(1);
        Case.is("begin", x.begin(0, 1, 10, 0, 0), 0);
        Case.is("state", x.runAt(0, 0), GOING);
        Case.is("frames", x.runAt(0, 2), 1);
        Case.is("function at hand", x.runAt(0, 9), 3);
        Case.is("instruction", x.runAt(0, 10), 0);
        Case.is("nothing on the stack", x.runAt(0, 3), 0);
        Case.noElement("value of what goes", () -> x.value(0));
        Case.is("step", x.step(0, 3), 3);
        Case.is("stackAt(0, 0)", x.stackAt(0, 0), 20);
        Case.noElement("stackAt(0, 1)", () -> x.stackAt(0, 1));
        Case.is("localAt(0, 0, 1)", x.localAt(0, 0, 1), 0);
        x.step(0, 1);
        Case.is("localAt(0, 0, 1)", x.localAt(0, 0, 1), 20);
        x.step(0, 3);
        Case.is("frames", x.runAt(0, 2), 2);
        Case.is("most frames", x.runAt(0, 8), 2);
        Case.is("function at hand", x.runAt(0, 9), 2);
        Case.is("what was given is on no stack", x.runAt(0, 3), 0);
        Case.is("localAt(0, 0, 0)", x.localAt(0, 0, 0), 20);
        Case.is("localAt(0, 0, 1)", x.localAt(0, 0, 1), 5);
        Case.is("localAt(0, 0, 2)", x.localAt(0, 0, 2), 0);
        Case.is("localAt(0, 1, 0)", x.localAt(0, 1, 0), 10);
        Case.noElement("localAt(0, 0, 3)", () -> x.localAt(0, 0, 3));
        Case.noElement("localAt(0, 1, 2)", () -> x.localAt(0, 1, 2));
        Case.noElement("localAt(0, 2, 0)", () -> x.localAt(0, 2, 0));
        Case.noElement("localAt(0, -1, 0)", () -> x.localAt(0, -1, 0));
        Case.noElement("localAt(0, 0, -1)", () -> x.localAt(0, 0, -1));
        x.step(0, 4);
        Case.is("puts", x.runAt(0, 5), 1);
        Case.is("their sum", x.runAt(0, 6), 17 * 31 + 20);
        Case.is("outAt(0, 0)", x.outAt(0, 0), 20);
        Case.noElement("outAt(0, 1)", () -> x.outAt(0, 1));
        Case.noElement("outAt(0, -1)", () -> x.outAt(0, -1));
        x.step(0, 3);
        Case.is("a LONG on the stack", x.stackAt(0, 0), 5);
        Case.is("on the stack", x.stackAt(0, 1), 20);
        Case.is("on all stacks", x.runAt(0, 3), 2);
        Case.is("the rest", x.step(0, 1000), 6);
        Case.is("state", x.runAt(0, 0), ENDED);
        Case.is("steps", x.runAt(0, 1), 20);
        Case.is("frames", x.runAt(0, 2), 0);
        Case.is("on all stacks", x.runAt(0, 3), 0);
        Case.is("most frames", x.runAt(0, 8), 2);
        Case.is("function at hand", x.runAt(0, 9), -1);
        Case.is("instruction", x.runAt(0, 10), -1);
        Case.is("numbers got", x.runAt(0, 11), 0);
        Case.is("pages", x.runAt(0, 4), 4);
        Case.is("value", x.value(0), 26);
        Case.noElement("stackAt behind the end", () -> x.stackAt(0, 0));
        Case.noElement("localAt behind the end", () -> x.localAt(0, 0, 0));
        Case.noState("step behind the end", () -> x.step(0, 1));
    }

    private static void values() {
        Codekiln x = Case.made("void f(int a){}char g(char a){return a;}long h(long a){return a;}int i(int a){return a;}"
            + "int*j(char a,long b,int c){return (int*)(a+b+c);}");
        long[] due = {0, 44, 300 + (1L << 40), 300, 44 + 7 + 9};
        for (int f = 0; f < 5; f++) {
            x.begin(0, f, 300 + (1L << 40), 7, 9 + (5L << 32));
            x.step(f, 40000);
            Case.is("value of " + f, x.value(f), due[f]);
        }
        run(-5, -5, 0, 32, 0, 11);
        run(-5, 4294967291L, 0, 32, 0, 11);
    }

    private static void numeric() {
        int[] words = {106, 107, 108, 109, 111, 113, 114, 115, 116, 117, 118};
        long[] due = {-15, -19, -34, -8, -1, 2, -17, -19, -68, -5, 1073741819};
        for (int k = 0; k < words.length; k++) {
            run(due[k], -17, 0, 32, 0, 65, 2, words[k], 11);
        }
        long[] dueLong = {-15, -19, -34, -8, -1, 2, -17, -19, -68, -5, -5};
        for (int k = 0; k < words.length; k++) {
            run(dueLong[k], 0, -17, 32, 1, 66, 2, words[k] + 18, 167, 11);
        }
        int[] compares = {70, 71, 72, 73, 74, 75, 76, 77, 78, 79};
        int[] less = {0, 1, 1, 0, 0, 1, 1, 0, 0, 1};
        int[] same = {1, 0, 0, 0, 0, 0, 1, 1, 1, 1};
        for (int k = 0; k < 10; k++) {
            run(less[k], -1, 0, 32, 0, 65, 3, compares[k], 11);
            run(same[k], 3, 0, 32, 0, 65, 3, compares[k], 11);
            run(less[k], 0, -1, 32, 1, 66, 3, compares[k] + 11, 11);
            run(same[k], 0, 3, 32, 1, 66, 3, compares[k] + 11, 11);
        }
        run(1, 0, 0, 32, 0, 69, 11);
        run(0, 5, 0, 32, 0, 69, 11);
        run(0, 0, 1L << 32, 32, 1, 80, 11);
        run(7, 0, (1L << 32) + 7, 32, 1, 167, 11);
        run(1, -1, 0, 32, 0, 172, 66, 127, 81, 11);
        run(4, 1, 0, 32, 0, 65, 34, 116, 11);
        run(1, 0, 1, 32, 1, 66, 192, 0, 134, 167, 11);
        run(-1, -1, 0, 32, 0, 65, 32, 118, 11);
        run(1, 0, -1, 32, 1, 66, 63, 136, 167, 11);
        run(0, Integer.MIN_VALUE, 0, 32, 0, 65, 127, 111, 11);
        run(1, 0, Long.MIN_VALUE, 32, 1, 66, 127, 129, 80, 11);
        run(8, 1, 0, 65, 8, 65, 9, 32, 0, 27, 11);
        run(9, 0, 0, 65, 8, 65, 9, 32, 0, 27, 11);
        run(16, 7, 0, 35, 0, 32, 0, 36, 0, 35, 0, 106, 35, 1, 167, 106, 65, 7, 107, 11);
    }

    private static void control() {
        run(5, 1, 0, 32, 0, 4, 127, 65, 5, 5, 65, 6, 11, 11);
        run(6, 0, 0, 32, 0, 4, 127, 65, 5, 5, 65, 6, 11, 11);
        run(3, 0, 0, 32, 0, 4, 64, 65, 9, 33, 0, 11, 32, 0, 65, 3, 106, 11);
        run(12, 1, 0, 32, 0, 4, 64, 65, 9, 33, 0, 11, 32, 0, 65, 3, 106, 11);
        run(15, 5, 0, 65, 0, 3, 64, 35, 0, 32, 0, 106, 36, 0, 32, 0, 65, 1, 107, 34, 0, 13, 0, 11, 26,
            35, 0, 65, 7, 107, 11);
        run(7, 0, 0, 2, 127, 65, 1, 65, 2, 65, 7, 12, 0, 11, 11);
        run(4, 0, 0, 65, 3, 65, 4, 12, 0, 11);
        run(4, 1, 0, 2, 127, 65, 4, 32, 0, 13, 0, 26, 65, 5, 11, 11);
        run(5, 0, 0, 2, 127, 65, 4, 32, 0, 13, 0, 26, 65, 5, 11, 11);
        int[] places = {10, 11, 12, 12};
        for (int k = 0; k < 4; k++) {
            run(places[k], k, 0, 2, 64, 2, 64, 2, 64, 32, 0, 14, 2, 0, 1, 2, 11, 65, 10, 15, 11, 65, 11, 15, 11, 65, 12, 11);
        }
        run(12, -1, 0, 2, 64, 2, 64, 2, 64, 32, 0, 14, 2, 0, 1, 2, 11, 65, 10, 15, 11, 65, 11, 15, 11, 65, 12, 11);
        Codekiln x = read(32, 0, 4, 64, 1, 5, 1, 1, 11, 65, 3, 11);
        x.begin(0, 0, 1, 0, 0);
        Case.is("steps by the if", x.step(0, 100), 6);
        x.begin(0, 0, 0, 0, 0);
        Case.is("steps by the else", x.step(1, 100), 7);
        Codekiln y = read(32, 0, 4, 64, 1, 11, 65, 3, 11);
        y.begin(0, 0, 0, 0, 0);
        Case.is("steps behind the end of an if", y.step(0, 100), 4);
        Codekiln z = read(65, 1, 2, 64, 65, 2, 26, 11, 11);
        z.begin(0, 0, 0, 0, 0);
        z.step(0, 3);
        Case.is("instruction", z.runAt(0, 10), 3);
        Case.is("stack", z.runAt(0, 3), 2);
        Case.is("steps", z.step(0, 100), 3);
    }

    private static void memory() {
        run(200 * 256 + 1 + 3 * 65536, 0, 0, 65, 16, 40, 2, 0, 11);
        run(3, 0, 0, 65, 2, 45, 0, 16, 11);
        run(-2, -2, 0, 65, 5, 32, 0, 54, 2, 3, 65, 8, 40, 2, 0, 11);
        run(254, -2, 0, 65, 5, 32, 0, 58, 0, 3, 65, 8, 40, 2, 0, 11);
        run(-2, 0, -2, 65, 5, 32, 1, 55, 3, 3, 65, 8, 41, 3, 0, 167, 11);
        run(1, 0, 0, 63, 0, 11);
        run(3, 2, 0, 32, 0, 64, 0, 26, 63, 0, 11);
        run(1, 2, 0, 32, 0, 64, 0, 11);
        run(-1, 3, 0, 32, 0, 64, 0, 11);
        run(1, 3, 0, 32, 0, 64, 0, 26, 63, 0, 11);
        run(-1, -1, 0, 32, 0, 64, 0, 11);
        run(5, 0, 0, 65, 2, 64, 0, 26, 65, 252, 23, 65, 5, 54, 2, 0, 65, 252, 23, 40, 2, 0, 11);
        Codekiln x = read(65, 2, 64, 0, 26, 65, 0, 65, 9, 58, 0, 0, 32, 0, 11);
        x.begin(0, 0, 0, 0, 0);
        int sum = 17;
        for (int k = 0; k < 1024; k++) {
            int b = k == 16 ? 1 : k == 17 ? 200 : k == 18 ? 3 : 0;
            sum = sum * 31 + b;
            Case.is("memoryAt(0, " + k + ")", x.memoryAt(0, k), b);
        }
        Case.is("sum of MEMORY", x.runAt(0, 7), sum);
        Case.noArgument("memoryAt(0, 1024)", () -> x.memoryAt(0, 1024));
        Case.noArgument("memoryAt(0, -1)", () -> x.memoryAt(0, -1));
        x.step(0, 100);
        Case.is("pages", x.runAt(0, 4), 3);
        Case.is("memoryAt(0, 0)", x.memoryAt(0, 0), 9);
        Case.is("memoryAt(0, 3071)", x.memoryAt(0, 3071), 0);
        Case.noArgument("memoryAt(0, 3072)", () -> x.memoryAt(0, 3072));
        sum = 17;
        for (int k = 0; k < 3072; k++) {
            sum = sum * 31 + x.memoryAt(0, k);
        }
        Case.is("sum of MEMORY", x.runAt(0, 7), sum);
        Case.is("globalAt(0, 0)", x.globalAt(0, 0), 7);
        Case.is("globalAt(0, 1)", x.globalAt(0, 1), 9);
        Case.noIndex("globalAt(0, 2)", () -> x.globalAt(0, 2));
        Case.noIndex("globalAt(0, -1)", () -> x.globalAt(0, -1));
        Case.noIndex("globalAt(1, 0)", () -> x.globalAt(1, 0));
    }

    private static void tables() {
        // The entry 1 is the function itself.
        run(9, 1, 0, 32, 0, 4, 127, 65, 0, 66, 0, 65, 1, 17, 0, 0, 5, 65, 9, 11, 11);
        int[][] bad = {{65, 0, 66, 0, 65, 0, 17, 0, 0, 11}, {65, 0, 66, 0, 65, 2, 17, 0, 0, 11},
            {65, 0, 66, 0, 65, 3, 17, 0, 0, 11}, {65, 0, 66, 0, 65, 127, 17, 0, 0, 11}};
        for (int[] code : bad) {
            trap(5, 3, 0, 0, code);
        }
        trap(5, 1, 0, 0, 65, 1, 17, 2, 0, 65, 0, 11);
        trap(5, 2, 0, 0, 65, 1, 65, 1, 17, 1, 0, 65, 0, 11);
        // An entry may be an import.
        Codekiln x = new Codekiln();
        Case.setBytes(x, Case.module(new int[] {1, 2, 96, 0, 1, 127, 96, 1, 127, 0},
            new int[] {2, 2, 1, 'h', 3, 'p', 'u', 't', 0, 1, 1, 'h', 3, 'g', 'e', 't', 0, 0}, new int[] {3, 1, 0},
            new int[] {4, 1, 112, 0, 4}, new int[] {7, 2, 1, 'f', 0, 2, 0, 0, 1},
            new int[] {9, 2, 0, 65, 0, 11, 3, 2, 0, 1, 0, 65, 1, 11, 1, 1}, new int[] {10, 1, 14, 0,
                65, 2, 17, 0, 0, 16, 0, 65, 1, 17, 0, 0, 11}));
        Case.is("read at " + x.fault(false), x.read(), 0);
        x.feed(5);
        x.feed(6);
        Case.noState("begin of an import", () -> x.begin(0, 1, 0, 0, 0));
        Case.noState("alike of an import", () -> x.alike(0, 1, 999, 0, 0, 0));
        x.begin(0, 0, 0, 0, 0);
        Case.is("steps", x.step(0, 100), 6);
        Case.is("put", x.outAt(0, 0), 5);
        Case.is("value", x.value(0), 6);
    }

    /** How a run ends by a trap: how much lies on all its stacks, and after how many steps. */
    private static void trap(int state, int left, long a, long b, int... code) {
        Codekiln x = read(code);
        x.begin(0, 0, a, b, 0);
        int steps = x.step(0, 40000);
        String of = " of " + Case.code(x, 0, 0);
        Case.is("state" + of, x.runAt(0, 0), state);
        Case.is("steps" + of, x.runAt(0, 1), steps);
        Case.is("on all stacks" + of, x.runAt(0, 3), left);
        Case.is("function at hand" + of, x.runAt(0, 9), -1);
        Case.is("instruction" + of, x.runAt(0, 10), -1);
        Case.is("localAt(0, 0, 0)" + of, x.localAt(0, 0, 0), a);
        Case.noElement("value" + of, () -> x.value(0));
        Case.noState("step" + of, () -> x.step(0, 1));
        Case.is("alike" + of, x.alike(0, 0, 127, a, b, 0), state == 6 ? 2 : 1);
    }

    private static void traps() {
        trap(2, 1, 0, 0, 65, 5, 0, 11);
        trap(3, 2, 0, 0, 65, 5, 32, 0, 109, 11);
        trap(3, 2, 0, 0, 65, 5, 32, 0, 111, 11);
        trap(3, 2, Integer.MIN_VALUE, 0, 32, 0, 65, 127, 109, 11);
        trap(3, 3, 0, 0, 65, 1, 66, 5, 32, 1, 127, 167, 26, 11);
        trap(3, 2, 0, Long.MIN_VALUE, 32, 1, 66, 127, 127, 167, 11);
        trap(3, 2, 0, 0, 66, 5, 32, 1, 129, 167, 11);
        trap(4, 1, 1021, 0, 32, 0, 40, 2, 0, 11);
        trap(4, 1, 0, 0, 32, 0, 40, 2, 253, 7, 11);
        trap(4, 1, 0, 0, 32, 0, 45, 0, 128, 8, 11);
        trap(4, 1, -1, 0, 32, 0, 45, 0, 0, 11);
        trap(4, 1, -1, 0, 32, 0, 45, 0, 255, 255, 255, 255, 15, 11);
        trap(4, 1, 1017, 0, 32, 0, 41, 3, 0, 167, 11);
        trap(4, 2, 1022, 0, 32, 0, 65, 127, 54, 2, 0, 65, 1, 11);
        trap(4, 2, 1017, 0, 32, 0, 66, 127, 55, 3, 0, 65, 1, 11);
        trap(4, 2, 1024, 0, 32, 0, 65, 127, 58, 0, 0, 65, 1, 11);
        run(0, 1020, 0, 32, 0, 40, 2, 0, 11);
        run(0, 1023, 0, 32, 0, 45, 0, 0, 11);
        run(1, 1016, 0, 32, 0, 66, 127, 55, 3, 0, 65, 1, 11);
        Codekiln x = read(32, 0, 65, 127, 54, 2, 0, 65, 1, 11);
        x.begin(0, 0, 1022, 0, 0);
        x.step(0, 3);
        Case.is("nothing is written", x.memoryAt(0, 1022), 0);
        Case.is("what lies on top", x.stackAt(0, 0), -1);
        Case.is("what lies below", x.stackAt(0, 1), 1022);
    }

    private static void deep() {
        Codekiln x = read(65, 5, 32, 0, 65, 1, 106, 66, 0, 16, 0, 106, 11);
        x.begin(0, 0, 100, 0, 0);
        Case.is("steps up to the 61st frame", x.step(0, 40000), 60 * 6);
        Case.is("state", x.runAt(0, 0), 6);
        Case.is("frames", x.runAt(0, 2), 60);
        Case.is("most frames", x.runAt(0, 8), 60);
        Case.is("on all stacks", x.runAt(0, 3), 59 + 3);
        Case.is("the newest", x.localAt(0, 0, 0), 159);
        Case.is("the oldest", x.localAt(0, 59, 0), 100);
        Case.is("stackAt(0, 0)", x.stackAt(0, 0), 0);
        Case.is("stackAt(0, 1)", x.stackAt(0, 1), 160);
        Case.is("stackAt(0, 2)", x.stackAt(0, 2), 5);
        Case.noElement("stackAt(0, 3)", () -> x.stackAt(0, 3));
        Case.is("alike", x.alike(0, 0, 0, 0, 0, 0), 2);
        trap(6, 3, 0, 0, 65, 0, 66, 0, 65, 1, 17, 0, 0, 11);
    }

    private static void input() {
        Codekiln x = Case.made("int f(){put(get());put(get());put(get());return get();}void g(int n){while(n--)put(n);}");
        x.feed(3);
        x.feed(-4);
        x.begin(0, 0, 0, 0, 0);
        x.clearInput();
        x.feed(9);
        x.begin(0, 0, 0, 0, 0);
        x.step(0, 40000);
        x.step(1, 40000);
        int[] one = {3, -4, -1};
        int[] two = {9, -1, -1};
        for (int k = 0; k < 3; k++) {
            Case.is("outAt(0, " + k + ")", x.outAt(0, k), one[k]);
            Case.is("outAt(1, " + k + ")", x.outAt(1, k), two[k]);
        }
        Case.is("numbers got", x.runAt(0, 11), 2);
        Case.is("numbers got", x.runAt(1, 11), 1);
        x.begin(0, 1, 130, 0, 0);
        x.step(2, 40000);
        Case.is("puts", x.runAt(2, 5), 130);
        Case.is("outAt(2, 99)", x.outAt(2, 99), 30);
        Case.noElement("outAt(2, 100)", () -> x.outAt(2, 100));
        Case.noIndex("outAt(3, 0)", () -> x.outAt(3, 0));
        Case.is("meanSteps", x.meanSteps() == (x.runAt(0, 1) + x.runAt(1, 1) + x.runAt(2, 1)) / 3.0, true);
    }

    private static void dropping() {
        Codekiln x = Case.made("int f(int a){return a;}");
        for (int k = 0; k < 6; k++) {
            Case.is("begin", x.begin(0, 0, k, 0, 0), k);
        }
        Case.noState("begin a 7th", () -> x.begin(0, 0, 0, 0, 0));
        Case.is("alike beside 6 runs", x.alike(0, 0, 0, 0, 0, 0), 1);
        Case.is("dropRun", x.dropRun(2), 5);
        Case.is("localAt of what was behind", x.localAt(2, 0, 0), 3);
        Case.is("localAt of the last one", x.localAt(4, 0, 0), 5);
        Case.noIndex("dropRun(5)", () -> x.dropRun(5));
        Case.noIndex("dropRun(-1)", () -> x.dropRun(-1));
        Case.is("begin", x.begin(0, 0, 77, 0, 0), 5);
        Case.is("localAt", x.localAt(5, 0, 0), 77);
        Case.is("localAt of the first one", x.localAt(0, 0, 0), 0);
        Case.is("dropRun", x.dropRun(0), 5);
        Case.is("localAt of the first one", x.localAt(0, 0, 0), 1);
        Case.is("clearModules", x.clearModules(), 1);
        Case.noIndex("runAt(0, 0)", () -> x.runAt(0, 0));
        Case.is("meanSteps", x.meanSteps() == 0.0, true);
    }

    private static void beginning() {
        Codekiln x = Case.made("int f(int a,int b,int c,int d){return a;}int g(int*p){return 1;}int h(int a){return a;}");
        Case.noState("begin of 4 parameters", () -> x.begin(0, 0, 0, 0, 0));
        Case.noState("begin of a pointer", () -> x.begin(0, 1, 0, 0, 0));
        x.pass(0, 0);
        Case.noState("begin of a pointer behind a pass", () -> x.begin(1, 1, 0, 0, 0));
        x.write(0);
        x.read();
        Case.is("begin of what was read", x.begin(2, 1, 5, 0, 0), 0);
        Case.noState("begin of 4 parameters", () -> x.begin(2, 0, 0, 0, 0));
        Codekiln y = Case.made("int f(char a){return a;}");
        y.pass(0, 1);
        y.write(0);
        y.read();
        for (int module = 0; module < 3; module++) {
            y.begin(module, 0, 511, 0, 0);
            y.step(module, 100);
            Case.is("a char of the module " + module, y.value(module), module < 2 ? 255 : 511);
        }
    }

    private static void wrongArguments() {
        Codekiln x = Case.made("int f(){return 1;}");
        Case.noIndex("begin(1, 0)", () -> x.begin(1, 0, 0, 0, 0));
        Case.noIndex("begin(-1, 0)", () -> x.begin(-1, 0, 0, 0, 0));
        Case.noIndex("begin(0, 1)", () -> x.begin(0, 1, 0, 0, 0));
        Case.noIndex("begin(0, -1)", () -> x.begin(0, -1, 0, 0, 0));
        Case.noIndex("step(0, 0)", () -> x.step(0, 0));
        x.begin(0, 0, 0, 0, 0);
        Case.noArgument("step(0, 0)", () -> x.step(0, 0));
        Case.noArgument("step(0, 40001)", () -> x.step(0, 40001));
        x.step(0, 40000);
        Case.noArgument("step(0, -1) behind the end", () -> x.step(0, -1));
        Case.noIndex("runAt(1, 99)", () -> x.runAt(1, 99));
        Case.noArgument("runAt(0, 12)", () -> x.runAt(0, 12));
        Case.noArgument("runAt(0, -1)", () -> x.runAt(0, -1));
        Case.noIndex("value(1)", () -> x.value(1));
        Case.noIndex("stackAt(1, 0)", () -> x.stackAt(1, 0));
        Case.noElement("stackAt(0, -1)", () -> x.stackAt(0, -1));
        Case.noIndex("localAt(1, 0, 0)", () -> x.localAt(1, 0, 0));
        Case.noIndex("memoryAt(1, -1)", () -> x.memoryAt(1, -1));
    }
}
