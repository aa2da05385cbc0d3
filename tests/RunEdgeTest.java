/** The edges of section 9 (promises 20 to 24): frames, traps, pages, tables, steps, what is kept of a run. */
public final class RunEdgeTest {
    private static final int I = 127;
    private static final int L = 126;

    public static void main(String[] args) {
        frames();
        importsAreNoFrames();
        stepsOfACall();
        steps();
        loadsAndStores();
        pages();
        growing();
        laterOnes();
        tables();
        typesOfEntries();
        divisions();
        branchTables();
        shiftsAndSigns();
        selects();
        trapsKeepAll();
        parameters();
        inputs();
        outputs();
        runsAndTheirNumbers();
        values();
        means();
        stackOfEachStep();
        whereJumpsGo();
        heightsOfJumps();
        sixOfEach();
        fourImports();
        muchOnTheStack();
        boundsOfAlike();
        boundsOfAgree();
        Case.end();
    }

    private static int[] a(int... all) {
        return all;
    }

    private static int[] row(int[]... parts) {
        int many = 0;
        for (int[] part : parts) {
            many += part.length;
        }
        int[] all = new int[many];
        int at = 0;
        for (int[] part : parts) {
            System.arraycopy(part, 0, all, at, part.length);
            at += part.length;
        }
        return all;
    }

    /** Sections behind one another, read as the module 0. */
    private static Codekiln read(int[]... sections) {
        int[] bytes = Case.module(sections);
        byte[] all = new byte[bytes.length];
        for (int k = 0; k < all.length; k++) {
            all[k] = (byte) bytes[k];
        }
        Codekiln x = new Codekiln();
        Case.addAll(x, all);
        Case.is("read at " + x.fault(false), x.read(), 0);
        return x;
    }

    /** A function f of two i32 and an i64 that gives an i32, and a memory of so many pages at least and at most. */
    private static Codekiln one(int least, int most, int... code) {
        return read(a(1, 1, 96, 3, I, I, L, 1, I), a(3, 1, 0), a(5, 1, 1, least, most), a(7, 1, 1, 'f', 0, 0), Case.codeSection(code));
    }

    private static int end(Codekiln x, long first, long second, long third) {
        int run = x.begin(0, 0, first, second, third);
        x.step(run, 40000);
        int state = x.runAt(run, 0);
        x.dropRun(run);
        return state;
    }

    private static long valueOf(Codekiln x, long first, long second, long third) {
        int run = x.begin(0, 0, first, second, third);
        x.step(run, 40000);
        long value = x.runAt(run, 0) == 1 ? x.value(run) : Long.MIN_VALUE;
        x.dropRun(run);
        return value;
    }

    /** At most 60 frames; the 61st is DEEP. */
    private static void frames() {
        Codekiln x = Case.made("int f(int n){return n>1?f(n-1)+1:1;}");
        for (int n : a(1, 2, 59, 60, 61, 62)) {
            int run = x.begin(0, 0, n, 0, 0);
            x.step(run, 40000);
            Case.is("state of " + n + " frames", x.runAt(run, 0), n <= 60 ? 1 : 6);
            Case.is("most frames", x.runAt(run, 8), Math.min(n, 60));
            Case.is("frames", x.runAt(run, 2), n <= 60 ? 0 : 60);
            Case.is("alike", x.alike(0, 0, 127, n, 0, 0), n <= 60 ? 1 : 2);
            if (n <= 60) {
                Case.is("value", x.value(run), n);
            } else {
                Case.noElement("value", () -> x.value(run));
                Case.is("the oldest frame's local", x.localAt(run, 59, 0), n);
                Case.is("the newest frame's local", x.localAt(run, 0, 0), n - 59);
                Case.noElement("a 61st frame's local", () -> x.localAt(run, 60, 0));
            }
        }
        // By call_indirect: TABLE comes ahead of that.
        for (int entry = 0; entry < 2; entry++) {
            Codekiln y = read(a(1, 1, 96, 1, I, 1, I), a(3, 1, 0), a(4, 1, 112, 0, 2), a(6, 1, I, 1, 65, 0, 11), a(7, 1, 1, 'f', 0, 0),
                a(9, 1, 0, 65, 1, 11, 1, 0), Case.codeSection(35, 0, 65, 1, 106, 36, 0, 32, 0, 35, 0, 65, 60, 70, 65, entry, 108, 65, 1, 115,
                    17, 0, 0, 11));
            y.begin(0, 0, 5, 0, 0);
            y.step(0, 40000);
            Case.is("state", y.runAt(0, 0), entry == 0 ? 6 : 5);
            Case.is("frames", y.runAt(0, 2), 60);
            Case.is("what lies on the newest stack", y.stackAt(0, 0), entry == 0 ? 1 : 0);
            Case.is("what lies below", y.stackAt(0, 1), 5);
        }
    }

    private static void importsAreNoFrames() {
        Codekiln x = Case.made("int f(int n){if(n>1)return f(n-1);put(get());return 4;}");
        x.feed(9);
        x.begin(0, 0, 60, 0, 0);
        x.step(0, 40000);
        Case.is("state", x.runAt(0, 0), 1);
        Case.is("most frames", x.runAt(0, 8), 60);
        Case.is("put", x.outAt(0, 0), 9);
        Case.is("value", x.value(0), 4);
    }

    private static void stepsOfACall() {
        Codekiln x = Case.made("void g(){}int f(){g();put(get());return 1;}");
        x.begin(0, 1, 0, 0, 0);
        Case.is("call", x.step(0, 1), 1);
        Case.is("function at hand", x.runAt(0, 9), 2);
        Case.is("instruction", x.runAt(0, 10), 0);
        Case.is("end", x.step(0, 1), 1);
        Case.is("function at hand", x.runAt(0, 9), 3);
        Case.is("instruction", x.runAt(0, 10), 1);
        Case.is("get is one step", x.step(0, 1), 1);
        Case.is("stack", x.stackAt(0, 0), -1);
        Case.is("put is one step", x.step(0, 1), 1);
        Case.is("puts", x.runAt(0, 5), 1);
        Case.is("stack", x.runAt(0, 3), 0);
        Case.is("the rest", x.step(0, 2), 2);
        Case.is("state", x.runAt(0, 0), 1);
        Case.is("all", x.runAt(0, 1), 6);
    }

    /** 1 to 40000 steps a call; fewer if it ends. */
    private static void steps() {
        Codekiln x = Case.made("int f(){while(1);return 1;}int g(){return 1;}");
        x.begin(0, 0, 0, 0, 0);
        x.begin(0, 1, 0, 0, 0);
        for (int many : a(0, -1, 40001, Integer.MIN_VALUE, Integer.MAX_VALUE)) {
            Case.noArgument("step(0, " + many + ")", () -> x.step(0, many));
            Case.noArgument("step(1, " + many + ")", () -> x.step(1, many));
        }
        Case.is("none was done", x.runAt(0, 1), 0);
        Case.is("1", x.step(0, 1), 1);
        Case.is("40000", x.step(0, 40000), 40000);
        Case.is("39999", x.step(0, 39999), 39999);
        Case.is("all", x.runAt(0, 1), 80000);
        Case.is("going", x.runAt(0, 0), 0);
        Case.is("1 of 2", x.step(1, 1), 1);
        Case.is("fewer", x.step(1, 40000), 1);
        Case.is("all", x.runAt(1, 1), 2);
        Case.noState("ended", () -> x.step(1, 1));
        Case.noArgument("ended, and out of range", () -> x.step(1, 0));
        Case.is("all", x.runAt(1, 1), 2);
        // Exactly 40000 steps are no bound yet: 8 in each round of it.
        Codekiln y = read(a(1, 1, 96, 1, I, 1, I), a(3, 1, 0), a(7, 1, 1, 'f', 0, 0),
            Case.codeSection(3, 64, 32, 0, 65, 1, 107, 34, 0, 13, 0, 11, 32, 0, 1, 11));
        // loop, n rounds of 5, end, get, nop, end.
        for (int n : a(7999, 8000)) {
            int all = 1 + n * 5 + 4;
            Case.is("alike of " + all, y.alike(0, 0, 0, n, 0, 0), all <= 40000 ? 1 : 2);
        }
        Codekiln z = read(a(1, 1, 96, 1, I, 1, I), a(3, 1, 0), a(7, 1, 1, 'f', 0, 0),
            Case.codeSection(3, 64, 32, 0, 65, 1, 107, 34, 0, 13, 0, 11, 32, 0, 1, 1, 11));
        Case.is("alike of 40001", z.alike(0, 0, 0, 7999, 0, 0), 2);
        Case.is("alike of 39996", z.alike(0, 0, 0, 7998, 0, 0), 1);
    }

    /** MEMORY: the last place at which each of them fits, and the first one at which it does not. */
    private static void loadsAndStores() {
        int[][] loads = {a(40, 2, 4), a(41, 3, 8), a(45, 0, 1)};
        int[][] stores = {a(54, 2, 4), a(55, 3, 8), a(58, 0, 1)};
        int[] offsets = {0, 1, 3, 100, 1000};
        for (int pages = 1; pages < 9; pages += 7) {
            int size = pages * 1024;
            for (int k = 0; k < 3; k++) {
                for (int offset : offsets) {
                    int[] more = offset < 128 ? a(offset) : a(offset & 127 | 128, offset >> 7);
                    int[] wrap = loads[k][0] == 41 ? a(167) : a();
                    Codekiln x = one(pages, pages, row(a(32, 0, loads[k][0], loads[k][1]), more, wrap, a(11)));
                    int[] given = stores[k][0] == 55 ? a(32, 2) : a(32, 1);
                    Codekiln y = one(pages, pages, row(a(32, 0), given, a(stores[k][0], stores[k][1]), more, a(65, 1, 11)));
                    int last = size - loads[k][2] - offset;
                    for (int place : a(0, last - 1, last)) {
                        Case.is("load at " + place + " and " + offset, end(x, place, 0, 0), 1);
                        Case.is("store at " + place + " and " + offset, end(y, place, -1, -1), 1);
                    }
                    for (int place : a(last + 1, size, -1, -8, Integer.MAX_VALUE, Integer.MIN_VALUE)) {
                        Case.is("load at " + place + " and " + offset, end(x, place, 0, 0), 4);
                        Case.is("store at " + place + " and " + offset, end(y, place, -1, -1), 4);
                    }
                }
            }
        }
        // The place and the offset together do not go round.
        Codekiln x = one(1, 1, 32, 0, 45, 0, 255, 255, 255, 255, 15, 11);
        Case.is("1 and 4294967295", end(x, 1, 0, 0), 4);
        Case.is("0 and 4294967295", end(x, 0, 0, 0), 4);
        // Nothing is written in part, and the byte is the lowest one.
        Codekiln y = one(1, 1, 32, 0, 32, 2, 55, 3, 0, 65, 1, 11);
        y.begin(0, 0, 1017, 0, -1);
        y.step(0, 100);
        Case.is("state", y.runAt(0, 0), 4);
        for (int k = 1010; k < 1024; k++) {
            Case.is("memoryAt(0, " + k + ")", y.memoryAt(0, k), 0);
        }
        y.begin(0, 0, 1016, 0, 0x0102030405060708L);
        y.step(1, 100);
        for (int k = 0; k < 8; k++) {
            Case.is("memoryAt(1, " + (1016 + k) + ")", y.memoryAt(1, 1016 + k), 8 - k);
        }
        Codekiln z = one(1, 1, 65, 0, 32, 0, 58, 0, 0, 65, 0, 40, 2, 0, 11);
        Case.is("8 bits", valueOf(z, 511, 0, 0), 255);
        Case.is("8 bits", valueOf(z, 256, 0, 0), 0);
    }

    private static void pages() {
        Codekiln x = one(0, 0, 63, 0, 11);
        Case.is("no pages", valueOf(x, 0, 0, 0), 0);
        x.begin(0, 0, 0, 0, 0);
        Case.is("pages", x.runAt(0, 4), 0);
        Case.is("sum of no MEMORY", x.runAt(0, 7), 17);
        Case.noArgument("memoryAt(0, 0)", () -> x.memoryAt(0, 0));
        Case.noArgument("memoryAt(0, -1)", () -> x.memoryAt(0, -1));
        Codekiln y = one(0, 8, 32, 0, 45, 0, 0, 11);
        Case.is("load in no pages", end(y, 0, 0, 0), 4);
        Codekiln z = read(a(1, 1, 96, 0, 1, I), a(3, 1, 0), a(7, 1, 1, 'f', 0, 0), Case.codeSection(65, 5, 11));
        z.begin(0, 0, 0, 0, 0);
        Case.is("without a memory", z.runAt(0, 4), 0);
        Case.is("sum", z.runAt(0, 7), 17);
        Case.noArgument("memoryAt(0, 0)", () -> z.memoryAt(0, 0));
        for (int pages = 1; pages <= 8; pages++) {
            Codekiln w = one(pages, 8, 63, 0, 11);
            w.begin(0, 0, 0, 0, 0);
            int last = pages * 1024 - 1;
            Case.is("pages", w.runAt(0, 4), pages);
            Case.is("the last byte", w.memoryAt(0, last), 0);
            Case.noArgument("one behind it", () -> w.memoryAt(0, last + 1));
            int sum = 17;
            for (int k = 0; k <= last; k++) {
                sum *= 31;
            }
            Case.is("sum", w.runAt(0, 7), sum);
        }
    }

    /** -1 if there would be more than at most; else how many there were. */
    private static void growing() {
        for (int least = 0; least < 4; least++) {
            for (int most = least; most <= 8; most++) {
                Codekiln x = one(least, most, 32, 0, 64, 0, 63, 0, 65, 16, 108, 106, 11);
                for (int more : a(0, 1, most - least, most - least + 1, 8, 9, -1, Integer.MAX_VALUE, Integer.MIN_VALUE)) {
                    boolean can = more >= 0 && more <= most - least;
                    int due = can ? least + (least + more) * 16 : -1 + least * 16;
                    Case.is("grow of " + least + " up to " + most + " by " + more, valueOf(x, more, 0, 0), due);
                }
            }
        }
        // What was there stays, what comes is 0, and there one may write then.
        Codekiln x = one(1, 2, 65, 0, 65, 7, 54, 2, 0, 65, 252, 15, 65, 1, 64, 0, 54, 2, 0, 65, 0, 40, 2, 0, 65, 252, 15, 40, 2, 0, 106, 11);
        Case.is("behind a grow", valueOf(x, 0, 0, 0), 8);
        Codekiln y = one(1, 2, 65, 252, 15, 65, 1, 54, 2, 0, 65, 1, 11);
        Case.is("without a grow", end(y, 0, 0, 0), 4);
        // Twice, and of another run each begins anew.
        Codekiln z = one(1, 3, 65, 1, 64, 0, 65, 1, 64, 0, 106, 65, 1, 64, 0, 106, 11);
        Case.is("1, 2 and -1", valueOf(z, 0, 0, 0), 2);
        Case.is("again", valueOf(z, 0, 0, 0), 2);
    }

    /** Later data lie over earlier ones, later elements likewise. */
    private static void laterOnes() {
        Codekiln x = read(a(1, 1, 96, 0, 1, I), a(3, 3, 0, 0, 0), a(4, 1, 112, 0, 4), a(5, 1, 1, 1, 1), a(7, 1, 1, 'f', 0, 0),
            a(9, 3, 0, 65, 1, 11, 3, 0, 0, 0, 0, 65, 2, 11, 2, 1, 2, 0, 65, 3, 11, 1, 1),
            a(10, 3, 13, 0, 65, 2, 17, 0, 0, 65, 3, 17, 0, 0, 106, 11, 4, 0, 65, 5, 11, 4, 0, 65, 6, 11),
            a(11, 3, 0, 65, 0, 11, 4, 1, 2, 3, 4, 0, 65, 1, 11, 2, 9, 8, 0, 65, 2, 11, 1, 7));
        x.begin(0, 0, 0, 0, 0);
        int[] due = {1, 9, 7, 4, 0};
        for (int k = 0; k < due.length; k++) {
            Case.is("memoryAt(0, " + k + ")", x.memoryAt(0, k), due[k]);
        }
        x.step(0, 100);
        Case.is("entries 2 and 3", x.value(0), 10);
    }

    /** An entry that there is not, or without a function. */
    private static void tables() {
        for (int entries = 0; entries <= 40; entries += 8) {
            int[] elements = entries >= 8 ? a(9, 2, 0, 65, 1, 11, 1, 1, 0, 65, entries - 1, 11, 1, 1) : a(9, 0);
            Codekiln x = read(a(1, 2, 96, 1, I, 1, I, 96, 0, 1, I), a(3, 2, 0, 1), a(4, 1, 112, 0, entries), a(7, 1, 1, 'f', 0, 0), elements,
                a(10, 2, 7, 0, 32, 0, 17, 1, 0, 11, 4, 0, 65, 5, 11));
            for (int entry : a(0, 1, 2, entries - 1, entries, entries + 1, 39, 40, 41, -1, Integer.MAX_VALUE, Integer.MIN_VALUE)) {
                boolean is = entries >= 8 && (entry == 1 || entry == entries - 1);
                Case.is("entry " + entry + " of " + entries, end(x, entry, 0, 0), is ? 1 : 5);
            }
        }
    }

    /** One of another type (parameters and value); types that are told twice are the same. */
    private static void typesOfEntries() {
        int[] types = a(1, 8, 96, 0, 0, 96, 0, 1, I, 96, 0, 1, L, 96, 1, I, 0, 96, 1, L, 0, 96, 1, I, 1, I, 96, 2, I, I, 0, 96, 0, 1, I);
        int[][] args = {a(), a(), a(), a(65, 0), a(66, 0), a(65, 0), a(65, 0, 65, 0), a()};
        int[][] behind = {a(), a(26), a(26), a(), a(), a(26), a(), a(26)};
        int[][] bodies = {a(2, 0, 11), a(4, 0, 65, 1, 11), a(4, 0, 66, 1, 11), a(2, 0, 11), a(2, 0, 11), a(4, 0, 65, 1, 11), a(2, 0, 11),
            a(4, 0, 65, 1, 11)};
        for (int wanted = 0; wanted < 8; wanted++) {
            for (int is = 0; is < 8; is++) {
                int[] code = row(a(0), args[wanted], a(65, 0, 17, wanted, 0), behind[wanted], a(11));
                Codekiln x = read(types, a(3, 2, 0, is), a(4, 1, 112, 0, 1), a(7, 1, 1, 'f', 0, 0), a(9, 1, 0, 65, 0, 11, 1, 1),
                    row(a(10, 2, code.length), code, bodies[is]));
                boolean same = wanted == is || wanted == 1 && is == 7 || wanted == 7 && is == 1;
                Case.is("type " + is + " by " + wanted, end(x, 0, 0, 0), same ? 1 : 5);
            }
        }
    }

    private static void divisions() {
        for (int op : a(109, 111)) {
            Codekiln x = one(1, 1, 32, 0, 32, 1, op, 11);
            Case.is("by 0", end(x, 5, 0, 0), 3);
            Case.is("0 by 0", end(x, 0, 0, 0), 3);
            Case.is("by 1", end(x, 5, 1, 0), 1);
            Case.is("the least by -1", end(x, Integer.MIN_VALUE, -1, 0), op == 109 ? 3 : 1);
            Case.is("the least by 1", valueOf(x, Integer.MIN_VALUE, 1, 0), op == 109 ? Integer.MIN_VALUE : 0);
            Case.is("one more by -1", valueOf(x, Integer.MIN_VALUE + 1, -1, 0), op == 109 ? Integer.MAX_VALUE : 0);
            Case.is("cut toward 0", valueOf(x, -7, 2, 0), op == 109 ? -3 : -1);
            Codekiln y = one(1, 1, 32, 2, 32, 0, 172, op + 18, 66, 1, op + 18, 167, 11);
            Case.is("by 0", end(y, 0, 0, 5), 3);
            Case.is("the least by -1", end(y, -1, 0, Long.MIN_VALUE), op == 109 ? 3 : 1);
            Case.is("one more by -1", end(y, -1, 0, Long.MIN_VALUE + 1), 1);
            Case.is("the least of i32 by -1", end(y, -1, 0, Integer.MIN_VALUE), 1);
        }
    }

    /** The place of the number that it takes, without a sign, or the last one. */
    private static void branchTables() {
        for (int many : a(0, 1, 3)) {
            int[] code = a();
            for (int k = 0; k <= many; k++) {
                code = row(code, a(2, 64));
            }
            code = row(code, a(32, 0, 14, many));
            for (int k = 0; k <= many; k++) {
                code = row(code, a(k));
            }
            for (int k = 0; k <= many; k++) {
                code = row(code, a(11, 65, 10 + k, 15));
            }
            Codekiln x = one(1, 1, row(code, a(0, 11)));
            for (int number : a(0, 1, 2, 3, 4, many - 1, many, many + 1, -1, Integer.MIN_VALUE, Integer.MAX_VALUE)) {
                int due = 10 + (number >= 0 && number < many ? number : many);
                Case.is("the number " + number + " of " + many, valueOf(x, number, 0, 0), due);
            }
        }
    }

    private static void shiftsAndSigns() {
        int[] words = {0, 1, 31, 32, 33, 63, 64, -1};
        for (int by : words) {
            int[] number = {0x12345678, -5, Integer.MIN_VALUE};
            for (int one : number) {
                Case.is("shl", valueOf(one(1, 1, 32, 0, 32, 1, 116, 11), one, by, 0), one << by);
                Case.is("shr_s", valueOf(one(1, 1, 32, 0, 32, 1, 117, 11), one, by, 0), one >> by);
                Case.is("shr_u", valueOf(one(1, 1, 32, 0, 32, 1, 118, 11), one, by, 0), one >>> by);
                long wide = (long) one << 20 | 5;
                Case.is("shl", valueOf(one(1, 1, 32, 2, 32, 1, 172, 134, 66, 32, 136, 167, 11), 0, by, wide), (int) (wide << by >>> 32));
                Case.is("shr_s", valueOf(one(1, 1, 32, 2, 32, 1, 172, 135, 66, 32, 136, 167, 11), 0, by, wide), (int) (wide >> by >>> 32));
                Case.is("shr_u", valueOf(one(1, 1, 32, 2, 32, 1, 172, 136, 167, 11), 0, by, wide), (int) (wide >>> by));
            }
        }
        Case.is("a shift of i64 goes by 6 bits of an i64", valueOf(one(1, 1, 66, 1, 32, 2, 134, 167, 11), 0, 0, 1L << 40), 1);
        int[] ones = {0, 1, -1, Integer.MAX_VALUE, Integer.MIN_VALUE};
        for (int left : ones) {
            for (int right : ones) {
                int order = Integer.compareUnsigned(left, right);
                boolean[] due = {left == right, left != right, left < right, order < 0, left > right, order > 0, left <= right, order <= 0,
                    left >= right, order >= 0};
                for (int k = 0; k < 10; k++) {
                    Case.is(left + " " + (70 + k) + " " + right, valueOf(one(1, 1, 32, 0, 32, 1, 70 + k, 11), left, right, 0), due[k] ? 1 : 0);
                    Case.is(left + " " + (81 + k) + " " + right, valueOf(one(1, 1, 32, 2, 32, 1, 172, 81 + k, 11), 0, right, left), due[k] ? 1 : 0);
                }
            }
            Case.is("eqz", valueOf(one(1, 1, 32, 0, 69, 11), left, 0, 0), left == 0 ? 1 : 0);
            Case.is("eqz", valueOf(one(1, 1, 32, 2, 80, 11), 0, 0, (long) left << 32), left == 0 ? 1 : 0);
            Case.is("wrap", valueOf(one(1, 1, 32, 2, 167, 11), 0, 0, 5L << 40 | left & 4294967295L), left);
            Case.is("extend", valueOf(one(1, 1, 32, 0, 172, 32, 2, 81, 11), left, 0, left), 1);
        }
    }

    /** The test is on top: the lower one if it is not 0, else the upper one. */
    private static void selects() {
        for (int test : a(0, 1, -1, 2, Integer.MIN_VALUE)) {
            Case.is("select by " + test, valueOf(one(1, 1, 65, 5, 65, 6, 32, 0, 27, 11), test, 0, 0), test != 0 ? 5 : 6);
            Case.is("select by " + test, valueOf(one(1, 1, 66, 5, 66, 6, 32, 0, 27, 167, 11), test, 0, 0), test != 0 ? 5 : 6);
            Case.is("if by " + test, valueOf(one(1, 1, 32, 0, 4, I, 65, 5, 5, 65, 6, 11, 11), test, 0, 0), test != 0 ? 5 : 6);
            Case.is("br_if by " + test, valueOf(one(1, 1, 2, I, 65, 5, 32, 0, 13, 0, 26, 65, 6, 11, 11), test, 0, 0), test != 0 ? 5 : 6);
        }
    }

    /** The step counts, but does nothing else; frames, stacks and locals stay to be asked. */
    private static void trapsKeepAll() {
        int[][] ways = {a(0), a(65, 5, 65, 0, 109, 26), a(65, 127, 40, 2, 0, 26), a(65, 3, 66, 1, 65, 2, 17, 0, 0), a(65, 127, 66, 1, 55, 3, 0)};
        int[] states = {2, 3, 4, 5, 4};
        int[] done = {1, 3, 2, 4, 3};
        int[] left = {1, 3, 2, 4, 3};
        int[] top = {9, 0, -1, 2, 1};
        for (int k = 0; k < ways.length; k++) {
            int[] inner = row(a(0, 65, 9), ways[k], a(26, 11));
            Codekiln x = read(a(1, 1, 96, 2, I, L, 0), a(3, 2, 0, 0), a(4, 1, 112, 0, 3), a(5, 1, 1, 1, 1), a(6, 1, L, 1, 66, 3, 11),
                a(7, 1, 1, 'f', 0, 0), row(a(10, 2, 17, 1, 1, L, 66, 4, 36, 0, 65, 8, 32, 0, 32, 1, 16, 1, 26, 11, inner.length), inner));
            x.begin(0, 0, 77, -5, 0);
            Case.is("steps", x.step(0, 40000), 7 + done[k]);
            Case.is("steps", x.runAt(0, 1), 7 + done[k]);
            Case.is("state", x.runAt(0, 0), states[k]);
            Case.is("frames", x.runAt(0, 2), 2);
            Case.is("on all stacks", x.runAt(0, 3), 1 + left[k]);
            Case.is("on top", x.stackAt(0, 0), top[k]);
            Case.is("the lowest one of the newest", x.stackAt(0, left[k] - 1), 9);
            Case.noElement("no more", () -> x.stackAt(0, 9));
            int depth = left[k];
            Case.noElement("one below", () -> x.stackAt(0, depth));
            Case.is("newest", x.localAt(0, 0, 0), 77);
            Case.is("newest", x.localAt(0, 0, 1), -5);
            Case.noElement("newest", () -> x.localAt(0, 0, 2));
            Case.is("oldest", x.localAt(0, 1, 1), -5);
            Case.is("oldest", x.localAt(0, 1, 2), 0);
            Case.noElement("oldest", () -> x.localAt(0, 1, 3));
            Case.noElement("none", () -> x.localAt(0, 2, 0));
            Case.is("global", x.globalAt(0, 0), 4);
            Case.is("function at hand", x.runAt(0, 9), -1);
            Case.is("instruction", x.runAt(0, 10), -1);
            Case.noElement("value", () -> x.value(0));
            Case.noState("step", () -> x.step(0, 1));
            Case.is("errors", x.errors(), 0);
            Case.is("alike", x.alike(0, 0, 127, 77, -5, 0), 1);
        }
    }

    /** Of an i32 the lowest 32 bits; of a char of a module of a program the lowest 8 bits. */
    private static void parameters() {
        Codekiln x = Case.made("void f(char a,int b,long c){}void g(){}void h(char a){}");
        x.pass(0, 6);
        x.write(0);
        Case.is("read", x.read(), 2);
        long[] numbers = {0, 255, 256, -1, Integer.MAX_VALUE, 1L << 31, 1L << 32, (1L << 40) + 77, Long.MIN_VALUE, Long.MAX_VALUE};
        for (long number : numbers) {
            for (int module = 0; module < 3; module++) {
                int run = x.begin(module, 0, number, number, number);
                Case.is("a char of " + number, x.localAt(run, 0, 0), module < 2 ? number & 255 : (int) number);
                Case.is("an int", x.localAt(run, 0, 1), (int) number);
                Case.is("a long", x.localAt(run, 0, 2), number);
                Case.noElement("no more", () -> x.localAt(run, 0, 3));
                x.dropRun(run);
            }
        }
        Case.is("without parameters", x.begin(0, 1, 1, 2, 3), 0);
        Case.noElement("no locals", () -> x.localAt(0, 0, 0));
        // More than 3 parameters.
        for (int many = 0; many < 6; many++) {
            int[] type = row(a(1, 1, 96, many), new int[many], a(0));
            for (int k = 0; k < many; k++) {
                type[4 + k] = k % 2 == 0 ? I : L;
            }
            Codekiln y = read(type, a(3, 1, 0), a(7, 1, 1, 'f', 0, 0), Case.codeSection(11));
            if (many <= 3) {
                Case.is("begin", y.begin(0, 0, 1, 2, 3), 0);
                Case.is("alike", y.alike(0, 0, 127, 1, 2, 3), 1);
                for (int k = 0; k < many; k++) {
                    Case.is("what was given", y.localAt(0, 0, k), k + 1);
                }
            } else {
                Case.noState("begin", () -> y.begin(0, 0, 1, 2, 3));
                Case.noState("alike", () -> y.alike(0, 0, 127, 1, 2, 3));
                Case.noIndex("no run", () -> y.runAt(0, 0));
            }
        }
    }

    /** INPUT as it is as the run begins; a get behind the last one does not count. */
    private static void inputs() {
        for (int count : a(0, 1, 39, 40)) {
            Codekiln x = Case.made("int f(int n){int r=0;while(n--)put(r=get());return r;}");
            for (int k = 0; k < count; k++) {
                x.feed(k + 100);
            }
            for (int gets : a(0, count - 1, count, count + 1)) {
                if (gets >= 0) {
                    int run = x.begin(0, 0, gets, 0, 0);
                    x.clearInput();
                    x.step(run, 40000);
                    Case.is("numbers got by " + gets + " of " + count, x.runAt(run, 11), Math.min(gets, count));
                    Case.is("the last one", x.value(run), gets == 0 ? 0 : gets > count ? -1 : gets + 99);
                    x.dropRun(run);
                    for (int k = 0; k < count; k++) {
                        x.feed(k + 100);
                    }
                }
            }
        }
    }

    /** 100 of the numbers that were put are kept; how many, and their sum, are of all. */
    private static void outputs() {
        Codekiln x = Case.made("void f(int n){while(n--)put(n);}");
        for (int many : a(0, 1, 99, 100, 101, 150)) {
            int run = x.begin(0, 0, many, 0, 0);
            x.step(run, 40000);
            int sum = 17;
            for (int n = many - 1; n >= 0; n--) {
                sum = sum * 31 + n;
            }
            Case.is("puts", x.runAt(run, 5), many);
            Case.is("their sum", x.runAt(run, 6), sum);
            int last = Math.min(many, 100) - 1;
            if (last >= 0) {
                Case.is("the last one that is kept", x.outAt(run, last), many - 1 - last);
            }
            Case.noElement("one behind it", () -> x.outAt(run, last + 1));
            Case.noElement("one ahead", () -> x.outAt(run, -1));
            Case.noElement("far behind", () -> x.outAt(run, Integer.MAX_VALUE));
            x.dropRun(run);
        }
    }

    private static void runsAndTheirNumbers() {
        Codekiln x = Case.made("int f(int a){return a;}");
        for (int k = 0; k < 6; k++) {
            Case.is("begin", x.begin(0, 0, k, 0, 0), k);
        }
        Case.noState("a 7th", () -> x.begin(0, 0, 9, 0, 0));
        Case.noIndex("a 7th of no export", () -> x.begin(0, 1, 9, 0, 0));
        for (int k = 0; k < 6; k++) {
            Case.is("as it was", x.localAt(k, 0, 0), k);
        }
        Case.noIndex("dropRun(6)", () -> x.dropRun(6));
        Case.is("dropRun(5)", x.dropRun(5), 5);
        Case.noIndex("dropRun(5)", () -> x.dropRun(5));
        Case.is("dropRun(0)", x.dropRun(0), 4);
        Case.is("dropRun(1)", x.dropRun(1), 3);
        int[] left = {1, 3, 4};
        for (int k = 0; k < 3; k++) {
            Case.is("what is left", x.localAt(k, 0, 0), left[k]);
        }
        Case.noIndex("localAt(3, 0, 0)", () -> x.localAt(3, 0, 0));
        for (int k = 3; k < 6; k++) {
            Case.is("begin", x.begin(0, 0, 10 + k, 0, 0), k);
        }
        Case.noState("a 7th", () -> x.begin(0, 0, 9, 0, 0));
        int[] now = {1, 3, 4, 13, 14, 15};
        for (int k = 0; k < 6; k++) {
            x.step(k, 100);
            Case.is("value", x.value(k), now[k]);
        }
        // Runs of modules go with these.
        Case.is("clearModules", x.clearModules(), 1);
        Case.noIndex("a run", () -> x.runAt(0, 0));
        Case.noIndex("begin", () -> x.begin(0, 0, 0, 0, 0));
        x.make(0);
        Case.is("begin", x.begin(0, 0, 5, 0, 0), 0);
        Case.is("the steps", x.runAt(0, 1), 0);
    }

    /** The value of a run that has ended; 0 if the function gives none. */
    private static void values() {
        Codekiln x = Case.made("int f(int a){return 8/a;}void g(int a){put(a);}long h(long a){return a;}char i(int a){return a;}");
        x.begin(0, 0, 2, 0, 0);
        x.begin(0, 0, 0, 0, 0);
        x.begin(0, 1, 5, 0, 0);
        x.begin(0, 2, Long.MIN_VALUE, 0, 0);
        x.begin(0, 3, 511, 0, 0);
        for (int k = 0; k < 5; k++) {
            int run = k;
            Case.noElement("going", () -> x.value(run));
        }
        Case.is("steps up to the last one", x.step(0, 3), 3);
        Case.noElement("going", () -> x.value(0));
        for (int k = 0; k < 5; k++) {
            x.step(k, 100);
        }
        Case.is("value", x.value(0), 4);
        Case.noElement("by a trap", () -> x.value(1));
        Case.is("of void", x.value(2), 0);
        Case.is("LONG", x.value(3), Long.MIN_VALUE);
        Case.is("of a char", x.value(4), 255);
        Case.noIndex("of no run", () -> x.value(5));
        Case.noIndex("of no run", () -> x.value(-1));
    }

    private static void means() {
        Codekiln x = Case.made("int f(){while(1);return 1;}");
        Case.is("without runs", x.meanSteps() == 0.0, true);
        for (int k = 0; k < 3; k++) {
            x.begin(0, 0, 0, 0, 0);
        }
        Case.is("without steps", x.meanSteps() == 0.0, true);
        x.step(0, 1);
        Case.is("1 of 3", x.meanSteps() == 1.0 / 3.0, true);
        x.step(1, 40000);
        x.step(2, 39999);
        Case.is("80000 of 3", x.meanSteps() == 80000.0 / 3.0, true);
        x.dropRun(0);
        Case.is("79999 of 2", x.meanSteps() == 39999.5, true);
    }

    /** A run that has done so many steps. */
    private static Codekiln stepped(Codekiln x, int steps, long first) {
        x.begin(0, 0, first, 6, 7);
        Case.is("steps", x.step(0, steps), steps);
        return x;
    }

    /** What lies on the stack of the newest frame, the top last. */
    private static String stack(Codekiln x, int many) {
        StringBuilder all = new StringBuilder();
        for (int k = many - 1; k >= 0; k--) {
            all.append(x.stackAt(0, k)).append(k > 0 ? " " : "");
        }
        Case.noElement("below all", () -> x.stackAt(0, many));
        return all.toString();
    }

    private static String stack(Codekiln x) {
        return stack(x, x.runAt(0, 3));
    }

    /** Each instruction takes as many as it takes, and leaves what lies below. */
    private static void stackOfEachStep() {
        Object[][] due = {{a(26), "9 8"}, {a(1), "9 8 5"}, {a(106), "9 13"}, {a(107), "9 3"}, {a(108), "9 40"}, {a(109), "9 1"}, {a(111), "9 3"}, {a(113), "9 0"},
            {a(114), "9 13"}, {a(115), "9 13"}, {a(116), "9 256"}, {a(117), "9 0"}, {a(118), "9 0"}, {a(69), "9 8 0"}, {a(70), "9 0"}, {a(71), "9 1"},
            {a(72), "9 0"}, {a(73), "9 0"}, {a(74), "9 1"}, {a(75), "9 1"}, {a(76), "9 0"}, {a(77), "9 0"}, {a(78), "9 1"}, {a(79), "9 1"}, {a(172), "9 8 5"},
            {a(27), "9"}, {a(32, 1), "9 8 5 6"}, {a(33, 1), "9 8"}, {a(34, 1), "9 8 5"}, {a(40, 2, 0), "9 8 0"}, {a(41, 3, 0), "9 8 0"}, {a(45, 0, 0), "9 8 0"},
            {a(54, 2, 0), "9"}, {a(58, 0, 0), "9"}, {a(63, 0), "9 8 5 1"}, {a(64, 0), "9 8 -1"}, {a(65, 4), "9 8 5 4"}, {a(66, 3), "9 8 5 3"}};
        for (Object[] one : due) {
            int[] op = (int[]) one[0];
            Codekiln x = stepped(one(1, 1, row(a(65, 9, 65, 8, 65, 5), op, a(65, 1, 15, 11))), 4, 5);
            Case.is("the stack behind " + op[0], stack(x), (String) one[1]);
            Case.is("what lies on all stacks", x.runAt(0, 3), ((String) one[1]).split(" ").length);
            Case.is("goes on behind it", x.runAt(0, 10), 4);
            Case.is("frames", x.runAt(0, 2), 1);
        }
        // select keeps, of two, the lower one by a test that is not 0, and else the upper one.
        Case.is("the lower one", stack(stepped(one(1, 1, 65, 9, 65, 8, 65, 7, 65, 5, 27, 65, 1, 15, 11), 5, 5)), "9 8");
        Case.is("the upper one", stack(stepped(one(1, 1, 65, 9, 65, 8, 65, 7, 65, 0, 27, 65, 1, 15, 11), 5, 5)), "9 7");
        Case.is("of i64", stack(stepped(one(1, 1, 65, 9, 66, 8, 66, 5, 125, 65, 1, 15, 11), 4, 5)), "9 3");
        Case.is("wrap", stack(stepped(one(1, 1, 65, 9, 66, 8, 167, 65, 1, 15, 11), 3, 5)), "9 8");
        Case.is("eqz of i64", stack(stepped(one(1, 1, 65, 9, 66, 0, 80, 65, 1, 15, 11), 3, 5)), "9 1");
        Case.is("store of i64", stack(stepped(one(1, 1, 65, 9, 65, 8, 66, 5, 55, 3, 0, 65, 1, 15, 11), 4, 5)), "9");
        Codekiln y = stepped(one(1, 1, 65, 9, 65, 8, 33, 1, 34, 0, 65, 1, 15, 11), 4, 5);
        Case.is("set", y.localAt(0, 0, 1), 8);
        Case.is("tee", y.localAt(0, 0, 0), 9);
        Case.is("the stack", stack(y), "9");
    }

    /** The instruction that is next behind so many steps, by a first parameter. */
    private static void next(int due, int steps, long first, int... code) {
        Codekiln x = stepped(one(1, 1, code), steps, first);
        Case.is("next behind " + steps + " steps of " + java.util.Arrays.toString(code) + " by " + first, x.runAt(0, 10), due);
        Case.is("function at hand", x.runAt(0, 9), due == -1 ? -1 : 0);
        Case.is("state", x.runAt(0, 0), due == -1 ? 1 : 0);
        Case.is("steps", x.runAt(0, 1), steps);
    }

    /** Behind the end of a block or if, at the first instruction of a loop; by if behind its else or end, by else behind its end. */
    private static void whereJumpsGo() {
        next(4, 2, 5, 2, 64, 12, 0, 1, 11, 65, 1, 11);
        next(1, 2, 5, 3, 64, 12, 0, 1, 11, 65, 1, 11);
        next(1, 4, 5, 3, 64, 1, 1, 12, 0, 11, 65, 1, 11);
        next(6, 3, 5, 2, 64, 32, 0, 13, 0, 1, 1, 11, 65, 1, 11);
        next(3, 3, 0, 2, 64, 32, 0, 13, 0, 1, 1, 11, 65, 1, 11);
        int[] both = a(32, 0, 4, 64, 1, 5, 1, 1, 11, 65, 1, 11);
        next(4, 2, 0, both);
        next(2, 2, 1, both);
        next(3, 3, 1, both);
        next(7, 4, 1, both);
        next(6, 4, 0, both);
        next(7, 5, 0, both);
        int[] then = a(32, 0, 4, 64, 1, 11, 65, 1, 11);
        next(4, 2, 0, then);
        next(2, 2, -1, then);
        next(4, 4, -1, then);
        next(6, 3, 1, 32, 0, 4, 64, 12, 0, 5, 1, 11, 65, 1, 11);
        next(7, 3, 0, 32, 0, 4, 64, 1, 5, 12, 0, 1, 11, 65, 1, 11);
        next(5, 3, 5, 2, 64, 3, 64, 12, 1, 11, 11, 65, 1, 11);
        next(1, 4, 5, 3, 64, 1, 2, 64, 12, 1, 11, 11, 65, 1, 11);
        next(-1, 2, 5, 65, 1, 12, 0, 11);
        next(-1, 3, 5, 2, 64, 65, 1, 12, 1, 11, 65, 2, 11);
        next(-1, 2, 5, 65, 1, 15, 11);
        next(-1, 2, 5, 65, 1, 11);
        next(1, 1, 5, 65, 1, 11);
        for (int first : a(0, 1, 2, -1, Integer.MIN_VALUE)) {
            next(first == 0 ? 6 : 9, 4, first, 2, 64, 2, 64, 32, 0, 14, 1, 0, 1, 1, 11, 65, 3, 15, 11, 65, 1, 11);
            next(first == 1 ? 2 : 9, 4, first, 2, 64, 3, 64, 32, 0, 14, 2, 1, 0, 1, 1, 11, 65, 3, 15, 11, 65, 1, 11);
        }
    }

    /** A function of nothing that gives so many i32, without any local. */
    private static Codekiln bare(int gives, int... code) {
        return read(gives == 1 ? a(1, 1, 96, 0, 1, I) : a(1, 1, 96, 0, 0), a(3, 1, 0), a(7, 1, 1, 'f', 0, 0), Case.codeSection(code));
    }

    private static void height(String stack, int next, int steps, int... code) {
        Codekiln x = stepped(bare(0, code), steps, 0);
        int many = stack.isEmpty() ? 0 : stack.split(" ").length;
        String what = "behind " + steps + " steps of " + java.util.Arrays.toString(code);
        Case.is("how much lies there " + what, x.runAt(0, 3), many);
        Case.is("what lies there " + what, stack(x, many), stack);
        Case.is("next " + what, x.runAt(0, 10), next);
        Case.is("to the end", x.step(0, 40) > 0, true);
    }

    /** The stack is at the height of the block, and its value on that, if it is taken. */
    private static void heightsOfJumps() {
        height("", 4, 3, 2, 64, 65, 5, 12, 0, 11, 11);
        height("", 5, 4, 2, 64, 65, 5, 65, 6, 12, 0, 11, 11);
        height("", 1, 3, 3, 64, 65, 5, 12, 0, 11, 11);
        height("6", 5, 4, 2, 127, 65, 5, 65, 6, 12, 0, 11, 26, 11);
        height("1 2 6", 7, 6, 65, 1, 65, 2, 2, 127, 65, 5, 65, 6, 12, 0, 11, 26, 26, 26, 11);
        height("1 2", 7, 6, 65, 1, 65, 2, 2, 64, 65, 5, 65, 6, 12, 0, 11, 26, 26, 11);
        height("1", 2, 5, 65, 1, 3, 64, 65, 5, 65, 6, 12, 0, 11, 26, 11);
        height("1", 2, 5, 65, 1, 3, 127, 65, 5, 65, 6, 12, 0, 11, 26, 26, 11);
        height("1 6", 8, 6, 65, 1, 2, 127, 65, 5, 65, 6, 65, 1, 13, 0, 26, 11, 26, 26, 11);
        height("1 5 6", 6, 6, 65, 1, 2, 127, 65, 5, 65, 6, 65, 0, 13, 0, 26, 11, 26, 26, 11);
        height("1 6", 7, 6, 65, 1, 2, 127, 65, 5, 65, 6, 65, 0, 14, 0, 0, 11, 26, 26, 11);
        height("1 6", 9, 7, 65, 1, 2, 127, 2, 127, 65, 5, 65, 6, 65, 0, 14, 0, 1, 11, 11, 26, 26, 11);
        height("1 7", 9, 6, 65, 1, 65, 1, 4, 127, 65, 5, 65, 7, 12, 0, 5, 65, 6, 11, 26, 26, 11);
        for (int depth = 0; depth < 3; depth++) {
            int[] code = row(times(depth, 2, 64), a(65, 9, 65, 7, 12, depth), times(depth, 11), depth > 0 ? a(65, 3, 11) : a(11));
            Codekiln x = stepped(bare(1, code), depth + 3, 0);
            Case.is("state", x.runAt(0, 0), 1);
            Case.is("value", x.value(0), 7);
            Case.is("nothing lies there", x.runAt(0, 3), 0);
            Case.is("no frames", x.runAt(0, 2), 0);
            Case.noElement("stackAt", () -> x.stackAt(0, 0));
        }
        Codekiln x = stepped(bare(1, 65, 1, 65, 2, 65, 3, 15, 11), 4, 0);
        Case.is("return", x.value(0), 3);
        Codekiln y = read(a(1, 2, 96, 0, 0, 96, 0, 1, I), a(3, 2, 0, 1), a(7, 1, 1, 'f', 0, 0), a(10, 2, 8, 0, 65, 1, 16, 1, 26, 26, 11, 7, 0, 65, 5, 65, 6, 15, 11));
        stepped(y, 4, 0);
        Case.is("all stacks", y.runAt(0, 3), 3);
        Case.is("that of the newest frame", stack(y, 2), "5 6");
        Case.is("one more", y.step(0, 1), 1);
        Case.is("behind return", stack(y), "1 6");
        Case.is("next", y.runAt(0, 10), 2);
        Case.is("function", y.runAt(0, 9), 0);
    }

    private static int[] times(int many, int... one) {
        int[] all = new int[many * one.length];
        for (int k = 0; k < all.length; k++) {
            all[k] = one[k % one.length];
        }
        return all;
    }

    /** What is read is written as it was: these bytes are as few as can be. */
    private static void writtenAsRead(Codekiln x) {
        int many = 0;
        while (x.byteAt(many) != -1) {
            many++;
        }
        int[] before = new int[many];
        for (int k = 0; k < many; k++) {
            before[k] = x.byteAt(k);
        }
        Case.is("as many bytes", x.moduleIs(0, 8), many);
        Case.is("as many written", x.write(0), many);
        for (int k = 0; k < many; k++) {
            Case.is("byte " + k, x.byteAt(k), before[k]);
        }
        Case.is("read again", x.read(), 1);
        Case.is("the same", x.same(0, 1), true);
    }

    /** 6 elements, 6 data, 6 globals: the first and the last do what they are for. */
    private static void sixOfEach() {
        int[] elements = a(9, 6);
        int[] datas = a(11, 6);
        int[] globals = a(6, 6);
        int[] codes = a(10, 8);
        for (int k = 0; k < 6; k++) {
            elements = row(elements, a(0, 65, k, 11), k == 5 ? a(2, k, 0) : a(1, k));
            datas = row(datas, a(0, 65, 10 * k, 11, k + 1), times(k + 1, k + 7));
            globals = row(globals, k % 2 == 0 ? a(I, k & 1 | k >> 2, 65, k + 20, 11) : a(L, k >> 1 & 1, 66, k + 20, 11));
            codes = row(codes, a(4, 0, 65, k + 50, 11));
        }
        codes = row(codes, a(7, 0, 32, 0, 17, 0, 0, 11), a(7, 0, 65, 9, 36, 4, 0, 11));
        int[] typed = a(1, 3, 96, 0, 1, I, 96, 1, I, 1, I, 96, 0, 0);
        int[][] parts = {typed, a(2, 0), a(3, 8, 0, 0, 0, 0, 0, 0, 1, 2), a(4, 1, 112, 0, 8), a(5, 1, 1, 1, 1), globals, a(7, 2, 1, 'f', 0, 6, 1, 'g', 0, 7), elements,
            codes, datas};
        Codekiln x = read(parts);
        writtenAsRead(x);
        for (int n = 0; n < 9; n++) {
            int run = x.begin(0, 0, n, 0, 0);
            x.step(run, 40);
            Case.is("the entry " + n, x.runAt(run, 0), n < 7 ? 1 : 5);
            if (n < 7) {
                Case.is("its function", x.value(run), n < 6 ? 50 + n : 50);
            }
            x.dropRun(run);
        }
        int run = x.begin(0, 1, 0, 0, 0);
        for (int k = 0; k < 6; k++) {
            Case.is("global " + k, x.globalAt(run, k), k + 20);
            for (int b = 0; b < 9; b++) {
                Case.is("byte " + b + " of data " + k, x.memoryAt(run, 10 * k + b), b <= k ? k + 7 : 0);
            }
        }
        Case.noIndex("a 7th", () -> x.globalAt(run, 6));
        x.step(run, 40);
        Case.is("a changing one", x.globalAt(run, 4), 9);
    }

    /** 4 imports, each get or put by itself. */
    private static void fourImports() {
        int[] imports = a(2, 4, 1, 'h', 3, 'p', 'u', 't', 0, 1, 1, 'h', 3, 'g', 'e', 't', 0, 0, 1, 'h', 3, 'p', 'u', 't', 0, 2, 1, 'h', 3, 'g', 'e', 't', 0, 3);
        Codekiln x = read(a(1, 4, 96, 0, 1, I, 96, 1, I, 0, 96, 1, I, 0, 96, 0, 1, I), imports, a(3, 1, 0), a(4, 1, 112, 0, 4), a(6, 0), a(7, 1, 1, 'f', 0, 4),
            a(9, 1, 0, 65, 0, 11, 4, 3, 2, 1, 0), Case.codeSection(65, 7, 16, 0, 65, 8, 16, 2, 16, 1, 16, 3, 107, 65, 3, 65, 3, 17, 1, 0, 65, 0, 17, 0, 0, 106, 11), a(11, 0));
        writtenAsRead(x);
        Case.is("imports", x.moduleIs(0, 1), 4);
        for (int k = 0; k < 4; k++) {
            Case.is("type of the import " + k, x.functionAt(0, k, 0), a(1, 0, 2, 3)[k]);
            Case.is("parameters", x.functionAt(0, k, 1), a(1, 0, 1, 0)[k]);
            Case.is("value", x.functionAt(0, k, 4), a(64, I, 64, I)[k]);
            Case.is("locals", x.functionAt(0, k, 2), 0);
            Case.is("instructions", x.functionAt(0, k, 3), 0);
        }
        x.feed(20);
        x.feed(3);
        x.feed(100);
        x.begin(0, 0, 0, 0, 0);
        x.step(0, 40);
        Case.is("value", x.value(0), 117);
        Case.is("put by the first", x.outAt(0, 0), 7);
        Case.is("put by the third", x.outAt(0, 1), 8);
        Case.is("put by the table", x.outAt(0, 2), 3);
        Case.is("got", x.runAt(0, 11), 3);
    }

    /** All locals and stacks of 60 frames are there to be asked. */
    private static void muchOnTheStack() {
        int[] code = row(a(1, 100, L), times(50, 65, 3), a(32, 0, 4, I, 32, 0, 65, 1, 107, 34, 0, 16, 0, 5, 65, 9, 11), times(50, 106), a(11));
        int[] codes = row(a(10, 1, code.length & 127 | 128, code.length >> 7), code);
        Codekiln x = read(a(1, 1, 96, 1, I, 1, I), a(3, 1, 0), a(7, 1, 1, 'f', 0, 0), codes);
        x.begin(0, 0, 100, 0, 0);
        x.step(0, 40000);
        Case.is("DEEP", x.runAt(0, 0), 6);
        Case.is("frames", x.runAt(0, 2), 60);
        Case.is("all stacks", x.runAt(0, 3), 60 * 50 + 1);
        for (int frame = 0; frame < 60; frame++) {
            Case.is("local 0 of the frame " + frame, x.localAt(0, frame, 0), 40 + frame);
            Case.is("local 100 of the frame " + frame, x.localAt(0, frame, 100), 0);
        }
        Case.is("the top", x.stackAt(0, 0), 40);
        Case.is("below", x.stackAt(0, 50), 3);
        Case.noElement("below all", () -> x.stackAt(0, 51));
        Case.is("begin", x.begin(0, 0, 59, 0, 0), 1);
        x.step(1, 40000);
        Case.is("value", x.value(1), 9 + 60 * 150);
    }

    /** At most 40000 steps each, and 60 frames each, with the passes and without them. */
    private static void boundsOfAlike() {
        for (int nops = 0; nops < 3; nops++) {
            Codekiln x = one(1, 1, row(a(3, 64, 32, 0, 65, 1, 107, 34, 0, 13, 0, 11), times(nops, 1), a(65, 1, 11)));
            for (int n = 7998; n < 8001; n++) {
                int steps = 5 * n + 4 + nops;
                Case.is(steps + " steps", x.alike(0, 0, 0, n, 0, 0), steps <= 40000 ? 1 : 2);
                Case.is(steps + " steps, fewer behind PEEP", x.alike(0, 0, 2, n, 0, 0), steps <= 40000 ? 1 : 2);
            }
        }
        // A call of a leaf of 3 locals is 2 steps, and 8 where it is INLINE.
        int[] leaf = a(4, 1, 3, I, 11);
        int[] caller = a(0, 3, 64, 16, 0, 32, 0, 65, 1, 107, 34, 0, 13, 0, 11, 65, 1, 11);
        Codekiln y = read(a(1, 2, 96, 0, 0, 96, 1, I, 1, I), a(3, 2, 0, 1), a(7, 1, 1, 'f', 0, 1), row(a(10, 2), leaf, a(caller.length), caller));
        for (int n : a(3075, 3076, 3077, 5713, 5714, 5715)) {
            Case.is("steps without a pass by " + n, y.alike(0, 0, 0, n, 0, 0), 4 + 7 * n <= 40000 ? 1 : 2);
            Case.is("steps behind INLINE by " + n, y.alike(0, 0, 1, n, 0, 0), 4 + 13 * n <= 40000 ? 1 : 2);
        }
        Codekiln z = Case.made("int g(){return 4;}int f(int n){if(n)return f(n-1);return g();}");
        for (int n = 57; n < 62; n++) {
            Case.is("frames of both", z.alike(0, 1, 0, n, 0, 0), n + 2 <= 60 ? 1 : 2);
            Case.is("frames, one less behind INLINE", z.alike(0, 1, 1, n, 0, 0), n + 2 <= 60 ? 1 : 2);
            int made = z.pass(0, 0);
            Case.is("frames behind INLINE", z.alike(made, 1, 0, n, 0, 0), n + 1 <= 60 ? 1 : 2);
            z.begin(made, 1, n, 0, 0);
            z.step(n - 57, 40000);
            Case.is("frames of the run", z.runAt(n - 57, 8), Math.min(60, n + 1));
        }
    }

    private static long stepsOf(Codekiln x, int module, long a, long b, long c) {
        int run = x.begin(module, 0, a, b, c);
        x.step(run, 40000);
        if (x.runAt(run, 0) == 0) {
            x.step(run, 40000);
        }
        long steps = x.runAt(run, 1);
        x.dropRun(run);
        return steps;
    }

    /** With at most 40000 steps: as many as the module behind the passes takes count. */
    private static void boundsOfAgree() {
        Codekiln x = Case.made("int f(int n,int m,int k){int j;while(n--);while(m--){1;1;1;1;}while(k--)j=1;return 5;}");
        x.passes(0, 127);
        long none = stepsOf(x, 0, 0, 0, 0);
        long first = stepsOf(x, 0, 1, 0, 0) - none;
        long second = stepsOf(x, 0, 0, 1, 0) - none;
        long third = stepsOf(x, 0, 0, 0, 1) - none;
        int found = 0;
        for (int due = 39999; due < 40003; due++) {
            for (int k = 0; k < 200 && found <= due - 39999; k++) {
                long rest = due - none - third * k;
                long m = rest / second - k % 5;
                long n = (rest - second * m) / first;
                if (n >= 0 && none + first * n + second * m + third * k == due && n + m + k < 2990) {
                    found++;
                    Case.is("steps", stepsOf(x, 0, n, m, k), due);
                    Case.is("agree by " + due + " steps", x.agree(0, 0, 0, n, m, k), due <= 40000 ? 1 : 2);
                    Case.is("behind passes", x.agree(0, 0, 127, n, m, k), stepsOf(x, 1, n, m, k) <= 40000 ? 1 : 2);
                    Case.is("fewer behind passes", stepsOf(x, 1, n, m, k) < due, true);
                }
            }
        }
        Case.is("found by so many steps", found, 4);
        for (int m = 2000; m < 2995; m += 199) {
            Case.is("agree by " + m, x.agree(0, 0, 0, 0, m, 0), stepsOf(x, 0, 0, m, 0) <= 40000 ? 1 : 2);
            Case.is("agree by " + m + " behind passes", x.agree(0, 0, 127, 0, m, 0), stepsOf(x, 1, 0, m, 0) <= 40000 ? 1 : 2);
        }
        Case.is("2999 rounds are BOUND", x.agree(0, 0, 127, 2999, 0, 0), 2);
    }
}
