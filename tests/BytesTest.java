/** Promises 12 to 19: what modules tell, their BYTES, reading, and what is not VALID. */
public final class BytesTest {
    private static final int[] TYPES = {1, 3, 96, 0, 0, 96, 2, 127, 126, 1, 127, 96, 1, 126, 1, 126};
    private static final int[] ONE = {3, 1, 0};

    public static void main(String[] args) {
        told();
        theBytes();
        numbers();
        heads();
        lists();
        codes();
        secondKind();
        valid();
        deadCode();
        branchesInDeadCode();
        passesOverDeadCode();
        branches();
        sameOnes();
        roundTrip();
        tooManyBytes();
        Case.end();
    }

    private static void told() {
        Codekiln x = new Codekiln();
        Case.setBytes(x, Case.module(TYPES, new int[] {2, 1, 1, 'h', 3, 'g', 'e', 't', 0, 3},
            new int[] {3, 2, 1, 2}, new int[] {4, 1, 112, 0, 5}, new int[] {5, 1, 1, 2, 8},
            new int[] {6, 2, 127, 0, 65, 127, 11, 126, 1, 66, 128, 1, 11}, new int[] {7, 2, 1, 'a', 0, 1, 0, 0, 0},
            new int[] {9, 2, 0, 65, 1, 11, 2, 0, 1, 0, 65, 5, 11, 0},
            new int[] {10, 2, 21, 3, 1, 126, 0, 127, 2, 127, 2, 64, 65, 0, 14, 2, 0, 1, 0, 11, 65, 3, 40, 2, 128, 8, 11,
                4, 0, 32, 0, 11}, new int[] {11, 2, 0, 65, 7, 11, 2, 1, 2, 0, 65, 0, 11, 0}));
        Case.is("read of types that lack", x.read(), -1);
        // The type 3 of get stands behind the others.
        Case.setBytes(x, Case.module(new int[] {1, 4, 96, 0, 0, 96, 2, 127, 126, 1, 127, 96, 1, 126, 1, 126, 96, 0, 1, 127},
            new int[] {2, 1, 1, 'h', 3, 'g', 'e', 't', 0, 3},
            new int[] {3, 2, 1, 2}, new int[] {4, 1, 112, 0, 5}, new int[] {5, 1, 1, 2, 8},
            new int[] {6, 2, 127, 0, 65, 127, 11, 126, 1, 66, 128, 1, 11}, new int[] {7, 2, 1, 'a', 0, 1, 0, 0, 0},
            new int[] {9, 2, 0, 65, 1, 11, 2, 0, 1, 0, 65, 5, 11, 0},
            new int[] {10, 2, 27, 3, 1, 126, 0, 127, 2, 127, 2, 64, 65, 0, 14, 2, 0, 0, 0, 11, 63, 0, 26, 65, 3, 40, 2, 128, 8, 11,
                4, 0, 32, 0, 11}, new int[] {11, 2, 0, 65, 7, 11, 2, 1, 2, 0, 65, 0, 11, 0}));
        Case.is("read", x.read(), 0);
        Case.is("place of the fault", x.fault(false), -1);
        int[] due = {4, 1, 2, 5, 2, 2, 2, 2, 0, 0, 2, 8, 11, 3};
        x.write(0);
        due[8] = bytesOf(x);
        for (int what = 0; what < due.length; what++) {
            Case.is("moduleIs(0, " + what + ")", x.moduleIs(0, what), due[what]);
        }
        int[][] functions = {{3, 0, 0, 0, 127}, {1, 2, 3, 9, 127}, {2, 1, 0, 2, 126}};
        for (int f = 0; f < 3; f++) {
            for (int what = 0; what < 5; what++) {
                Case.is("functionAt(0, " + f + ", " + what + ")", x.functionAt(0, f, what), functions[f][what]);
            }
        }
        Case.is("code", Case.code(x, 0, 1), "2.64 65.0 14.0,0,0 11 63 26 65.3 40.1024 11");
        Case.is("SORTS", Case.locals(x, 0, 1), "[127, 126, 126, 127, 127]");
        Case.is("nothing stands with end", x.opAt(0, 1, 3, 1), -1);
        Case.is("nothing stands with size", x.opAt(0, 1, 4, 1), -1);
        Case.is("places of br_table", x.opAt(0, 1, 2, 1), 2);
        Case.is("countOf(0, 11)", x.countOf(0, 11), 3);
        Case.is("countOf(0, 65)", x.countOf(0, 65), 2);
        Case.is("countOf(0, 255)", x.countOf(0, 255), 0);
        wrongQuestions(x);
    }

    private static void wrongQuestions(Codekiln x) {
        Case.noIndex("moduleIs(1, 14)", () -> x.moduleIs(1, 14));
        Case.noArgument("moduleIs(0, 14)", () -> x.moduleIs(0, 14));
        Case.noArgument("moduleIs(0, -1)", () -> x.moduleIs(0, -1));
        Case.noIndex("functionAt(1, 0, 0)", () -> x.functionAt(1, 0, 0));
        Case.noIndex("functionAt(0, 3, 9)", () -> x.functionAt(0, 3, 9));
        Case.noIndex("functionAt(0, -1, 0)", () -> x.functionAt(0, -1, 0));
        Case.noArgument("functionAt(0, 0, 5)", () -> x.functionAt(0, 0, 5));
        Case.noArgument("functionAt(0, 0, -1)", () -> x.functionAt(0, 0, -1));
        Case.noIndex("localSort(1, 1, 0)", () -> x.localSort(1, 1, 0));
        Case.noIndex("localSort of an import", () -> x.localSort(0, 0, 0));
        Case.noIndex("localSort(0, 3, 0)", () -> x.localSort(0, 3, 0));
        Case.noIndex("localSort(0, 1, 5)", () -> x.localSort(0, 1, 5));
        Case.noIndex("localSort(0, 1, -1)", () -> x.localSort(0, 1, -1));
        Case.noIndex("opAt(1, 1, 0, 0)", () -> x.opAt(1, 1, 0, 0));
        Case.noIndex("opAt of an import", () -> x.opAt(0, 0, 0, 9));
        Case.noIndex("opAt(0, 1, 9, 9)", () -> x.opAt(0, 1, 9, 9));
        Case.noIndex("opAt(0, 1, -1, 0)", () -> x.opAt(0, 1, -1, 0));
        Case.noArgument("opAt(0, 1, 0, 2)", () -> x.opAt(0, 1, 0, 2));
        Case.noArgument("opAt(0, 1, 0, -1)", () -> x.opAt(0, 1, 0, -1));
        Case.noIndex("targetAt(1, 1, 2, 0)", () -> x.targetAt(1, 1, 2, 0));
        Case.noIndex("targetAt of an import", () -> x.targetAt(0, 0, 2, 0));
        Case.noIndex("targetAt(0, 1, 9, 0)", () -> x.targetAt(0, 1, 9, 0));
        Case.noElement("targetAt of no br_table", () -> x.targetAt(0, 1, 1, 0));
        Case.noElement("targetAt(0, 1, 2, 3)", () -> x.targetAt(0, 1, 2, 3));
        Case.noElement("targetAt(0, 1, 2, -1)", () -> x.targetAt(0, 1, 2, -1));
        Case.noIndex("countOf(1, 256)", () -> x.countOf(1, 256));
        Case.noArgument("countOf(0, 256)", () -> x.countOf(0, 256));
        Case.noArgument("countOf(0, -1)", () -> x.countOf(0, -1));
        Case.noIndex("write(1)", () -> x.write(1));
        Case.noIndex("same(0, 1)", () -> x.same(0, 1));
        Case.noIndex("same(-1, 0)", () -> x.same(-1, 0));
    }

    private static int bytesOf(Codekiln x) {
        int many = 0;
        while (x.byteAt(many) >= 0) {
            many++;
        }
        return many;
    }

    private static void theBytes() {
        Codekiln x = new Codekiln();
        Case.is("bytes", x.bytes(0x0102030405060708L, 8), 8);
        Case.is("bytes", x.bytes(0x0102030405060708L, 2), 10);
        Case.is("bytes", x.bytes(-1, 1), 11);
        int[] due = {1, 2, 3, 4, 5, 6, 7, 8, 7, 8, 255};
        int sum = 17;
        for (int k = 0; k < due.length; k++) {
            Case.is("byteAt(" + k + ")", x.byteAt(k), due[k]);
            sum = sum * 31 + due[k];
        }
        Case.is("checksum", x.checksum(), sum);
        Case.is("byteAt(11)", x.byteAt(11), -1);
        Case.is("byteAt(-1)", x.byteAt(-1), -1);
        Case.noArgument("bytes(1, 0)", () -> x.bytes(1, 0));
        Case.noArgument("bytes(1, 9)", () -> x.bytes(1, 9));
        Case.is("setByte", x.setByte(10, 7), 255);
        Case.is("setByte", x.setByte(10, 0), 7);
        Case.noIndex("setByte(11, 999)", () -> x.setByte(11, 999));
        Case.noIndex("setByte(-1, 1)", () -> x.setByte(-1, 1));
        Case.noArgument("setByte(0, 256)", () -> x.setByte(0, 256));
        Case.noArgument("setByte(0, -1)", () -> x.setByte(0, -1));
        Case.noArgument("cutBytes(12)", () -> x.cutBytes(12));
        Case.noArgument("cutBytes(-1)", () -> x.cutBytes(-1));
        Case.is("cutBytes", x.cutBytes(11), 11);
        Case.is("cutBytes", x.cutBytes(3), 11);
        Case.is("byteAt(3)", x.byteAt(3), -1);
        Case.is("cutBytes", x.cutBytes(0), 3);
        Case.is("checksum", x.checksum(), 17);
        Case.is("errors", x.errors(), 0);
    }

    private static void fault(String want, int... bytes) {
        Case.is("fault of " + java.util.Arrays.toString(bytes), Case.readFault(bytes), want);
    }

    private static void numbers() {
        // (n): at most 5 groups, below 2 to the power of 32.
        fault("none", 0, 97, 115, 109, 1, 0, 0, 0, 1, 129, 0, 0);
        fault("none", 0, 97, 115, 109, 1, 0, 0, 0, 1, 129, 128, 128, 128, 0, 0);
        fault("1 at 9", 0, 97, 115, 109, 1, 0, 0, 0, 1, 129, 128, 128, 128, 128, 0, 0);
        fault("1 at 9", 0, 97, 115, 109, 1, 0, 0, 0, 1, 129, 128, 128, 128, 16, 0);
        fault("1 at 15", 0, 97, 115, 109, 1, 0, 0, 0, 1, 129, 128, 128, 128, 15, 0);
        fault("1 at 12", 0, 97, 115, 109, 1, 0, 0, 0, 1, 129, 128, 128);
        fault("1 at 9", 0, 97, 115, 109, 1, 0, 0, 0, 1, 129, 128, 128, 128, 128);
        // (s)
        int[][] good = {{0}, {63}, {64}, {255, 0}, {128, 128, 128, 128, 0}, {255, 255, 255, 255, 7}, {128, 128, 128, 128, 120},
            {255, 255, 255, 255, 127}};
        int[][] bad = {{255, 255, 255, 255, 15}, {255, 255, 255, 255, 8}, {128, 128, 128, 128, 112}, {128, 128, 128, 128, 128, 0},
            {128, 128, 128, 128, 64}};
        long[] values = {0, 63, -64, 127, 0, 2147483647, -2147483648, -1};
        for (int k = 0; k < good.length; k++) {
            Codekiln x = constant(127, 65, good[k]);
            Case.is("read of a number", x.read(), 0);
            Case.is("its value", x.opAt(0, 0, 0, 1), values[k]);
        }
        for (int[] number : bad) {
            Codekiln x = constant(127, 65, number);
            Case.is("read of a number", x.read(), -1);
            Case.is("kind", x.fault(true), 1);
            Case.is("place", x.fault(false), 25);
        }
        int[][] goodLong = {{255, 255, 255, 255, 255, 255, 255, 255, 255, 0}, {128, 128, 128, 128, 128, 128, 128, 128, 128, 127},
            {255, 255, 255, 255, 255, 255, 255, 255, 255, 127}, {128, 128, 128, 128, 16}};
        long[] longs = {Long.MAX_VALUE, Long.MIN_VALUE, -1, 4294967296L};
        int[][] badLong = {{255, 255, 255, 255, 255, 255, 255, 255, 255, 1}, {128, 128, 128, 128, 128, 128, 128, 128, 128, 126},
            {128, 128, 128, 128, 128, 128, 128, 128, 128, 128, 0}};
        for (int k = 0; k < goodLong.length; k++) {
            Codekiln x = constant(126, 66, goodLong[k]);
            Case.is("read of a long number", x.read(), 0);
            Case.is("its value", x.opAt(0, 0, 0, 1), longs[k]);
            x.write(0);
            x.read();
            Case.is("written and read", x.same(0, 1), true);
        }
        for (int[] number : badLong) {
            Codekiln x = constant(126, 66, number);
            Case.is("read of a long number", x.read(), -1);
            Case.is("kind", x.fault(true), 1);
            Case.is("place", x.fault(false), 25);
        }
    }

    /** The number stands from 25 on. */
    private static Codekiln constant(int sort, int op, int... number) {
        int[] code = new int[number.length + 2];
        code[0] = op;
        System.arraycopy(number, 0, code, 1, number.length);
        code[number.length + 1] = 11;
        Codekiln x = new Codekiln();
        Case.setBytes(x, Case.module(new int[] {1, 1, 96, 0, 1, sort}, new int[] {3, 1, 0}, Case.codeSection(code)));
        int[] whole = Case.module(new int[] {1, 1, 96, 0, 1, sort}, new int[] {3, 1, 0}, Case.codeSection(code));
        Case.is("the op ahead of the number", whole[24], op);
        return x;
    }

    private static void heads() {
        fault("1 at 0");
        fault("1 at 0", 1);
        fault("1 at 4", 0, 97, 115, 109, 2, 0, 0, 0);
        fault("1 at 7", 0, 97, 115, 109, 1, 0, 0);
        fault("none", 0, 97, 115, 109, 1, 0, 0, 0);
        fault("1 at 8", 0, 97, 115, 109, 1, 0, 0, 0, 0, 0);
        fault("1 at 8", 0, 97, 115, 109, 1, 0, 0, 0, 8, 1, 0);
        fault("1 at 8", 0, 97, 115, 109, 1, 0, 0, 0, 12, 1, 0);
        fault("1 at 9", 0, 97, 115, 109, 1, 0, 0, 0, 1);
        fault("1 at 10", 0, 97, 115, 109, 1, 0, 0, 0, 1, 1);
        // A size that does not fit, a section twice, or out of its order.
        fault("1 at 11", 0, 97, 115, 109, 1, 0, 0, 0, 1, 2, 0);
        fault("1 at 11", 0, 97, 115, 109, 1, 0, 0, 0, 1, 2, 0, 0);
        fault("1 at 11", 0, 97, 115, 109, 1, 0, 0, 0, 1, 0, 0, 0);
        fault("1 at 11", Case.module(new int[] {1, 0}, new int[] {1, 0}));
        fault("1 at 11", Case.module(new int[] {3, 0}, new int[] {2, 0}));
        fault("none", Case.module(new int[] {1, 0}, new int[] {2, 0}, new int[] {3, 0}, new int[] {6, 0}, new int[] {7, 0},
            new int[] {9, 0}, new int[] {10, 0}, new int[] {11, 0}));
        fault("none", Case.module(new int[] {4, 1, 112, 0, 40}, new int[] {5, 1, 1, 0, 8}));
        fault("none", Case.module(new int[] {4, 129, 0, 112, 0, 40}));
    }

    private static int[] many(int first, int number, int... one) {
        int[] all = new int[2 + number * one.length];
        all[0] = first;
        all[1] = number;
        for (int k = 0; k < number; k++) {
            System.arraycopy(one, 0, all, 2 + k * one.length, one.length);
        }
        return all;
    }

    private static void lists() {
        fault("1 at 11", Case.module(new int[] {1, 1, 95, 0, 0}));
        fault("1 at 13", Case.module(new int[] {1, 1, 96, 1, 125, 0}));
        fault("1 at 13", Case.module(new int[] {1, 1, 96, 0, 2, 127, 127}));
        fault("1 at 14", Case.module(new int[] {1, 1, 96, 0, 1, 64}));
        fault("none", Case.module(many(1, 60, 96, 0, 0)));
        fault("1 at 11", Case.module(many(1, 61, 96, 0, 0)));
        int[] wide = many(1, 25, 127);
        wide[1] = 1;
        wide[2] = 96;
        wide[3] = 22;
        wide[26] = 0;
        fault("1 at 12", Case.module(wide));
        wide[3] = 20;
        wide[24] = 1;
        fault("1 at 35", Case.module(wide));
        fault("none", Case.module(java.util.Arrays.copyOf(wide, 26)));
        int[] types = {1, 2, 96, 0, 1, 127, 96, 1, 127, 0};
        int[] get = {1, 'h', 3, 'g', 'e', 't', 0, 0};
        fault("none", Case.module(types, many(2, 4, get)));
        fault("1 at 21", Case.module(types, many(2, 5, get)));
        fault("1 at 28", Case.module(types, new int[] {2, 1, 1, 'h', 3, 'g', 'e', 't', 1, 0}));
        fault("1 at 24", Case.module(types, new int[] {2, 1, 1, 'h', 11, 'g', 'e', 't', 0, 0}));
        // 60 functions in all; they have no codes then, which is of the second kind.
        fault("2 at 10", Case.module(types, many(3, 60, 0)));
        fault("1 at 21", Case.module(types, many(3, 61, 0)));
        fault("1 at 32", Case.module(types, many(2, 1, get), many(3, 60, 0)));
        fault("2 at 10", Case.module(types, many(2, 1, get), many(3, 59, 0)));
        fault("1 at 10", Case.module(new int[] {4, 0}));
        fault("1 at 10", Case.module(new int[] {4, 2, 112, 0, 1, 112, 0, 1}));
        fault("1 at 11", Case.module(new int[] {4, 1, 111, 0, 1}));
        fault("1 at 12", Case.module(new int[] {4, 1, 112, 1, 1, 1}));
        fault("1 at 13", Case.module(new int[] {4, 1, 112, 0, 41}));
        fault("1 at 10", Case.module(new int[] {5, 0}));
        fault("1 at 10", Case.module(new int[] {5, 2, 1, 1, 1, 1, 1, 1}));
        fault("1 at 11", Case.module(new int[] {5, 1, 0, 1}));
        fault("1 at 13", Case.module(new int[] {5, 1, 1, 1, 9}));
        fault("2 at 5", Case.module(new int[] {5, 1, 1, 9, 8}));
        fault("2 at 5", Case.module(new int[] {5, 1, 1, 255, 255, 255, 255, 15, 8}));
        fault("none", Case.module(many(6, 6, 127, 0, 65, 0, 11)));
        fault("1 at 10", Case.module(many(6, 7, 127, 0, 65, 0, 11)));
        fault("1 at 11", Case.module(new int[] {6, 1, 64, 0, 65, 0, 11}));
        fault("1 at 12", Case.module(new int[] {6, 1, 127, 2, 65, 0, 11}));
        fault("1 at 13", Case.module(new int[] {6, 1, 127, 0, 66, 0, 11}));
        fault("1 at 13", Case.module(new int[] {6, 1, 126, 0, 65, 0, 11}));
        fault("1 at 15", Case.module(new int[] {6, 1, 126, 0, 66, 0, 12}));
        fault("1 at 10", Case.module(many(7, 21, 0, 0, 0)));
        fault("1 at 11", Case.module(new int[] {7, 1, 11, 1, 2, 3, 4, 5, 6, 7, 8, 9, 10, 11, 0, 0}));
        fault("2 at 7", Case.module(new int[] {7, 1, 10, 1, 2, 3, 4, 5, 6, 7, 8, 9, 10, 0, 0}));
        fault("1 at 13", Case.module(new int[] {7, 1, 1, 'a', 1, 0}));
        fault("none", Case.module(many(9, 6, 0, 65, 0, 11, 0)));
        fault("1 at 10", Case.module(many(9, 7, 0, 65, 0, 11, 0)));
        fault("1 at 11", Case.module(new int[] {9, 1, 1, 65, 0, 11, 0}));
        fault("1 at 12", Case.module(new int[] {9, 1, 0, 66, 0, 11, 0}));
        fault("1 at 14", Case.module(new int[] {9, 1, 0, 65, 0, 0, 0}));
        fault("1 at 15", Case.module(new int[] {9, 1, 0, 65, 0, 11, 61}));
        int[] two = new int[2 + 2 * 36];
        two[0] = 9;
        two[1] = 2;
        for (int k = 0; k < 2; k++) {
            System.arraycopy(new int[] {0, 65, 0, 11, 31}, 0, two, 2 + 36 * k, 5);
        }
        fault("1 at 51", Case.module(two));
        fault("none", Case.module(new int[] {5, 1, 1, 1, 1}, many(11, 6, 0, 65, 0, 11, 1, 9)));
        fault("1 at 10", Case.module(many(11, 7, 0, 65, 0, 11, 0)));
        fault("1 at 15", Case.module(new int[] {11, 1, 0, 65, 0, 11, 161, 31}));
        fault("1 at 17", Case.module(new int[] {11, 1, 0, 65, 0, 11, 160, 31}));
    }

    private static int[] module(int[] code) {
        return Case.module(new int[] {1, 1, 96, 0, 0}, ONE, code);
    }

    private static void codes() {
        // The section of codes stands from 18 on: its number of codes at 20, the size at 21, the locals at 22.
        fault("none", module(Case.codeSection(11)));
        fault("1 at 23", module(Case.codeSection(6, 11)));
        fault("1 at 23", module(Case.codeSection(67, 11)));
        fault("1 at 23", module(Case.codeSection(110, 11)));
        fault("1 at 23", module(Case.codeSection(255, 11)));
        fault("1 at 24", module(Case.codeSection(2, 65, 11, 11)));
        fault("1 at 25", module(Case.codeSection(17, 0, 1, 11)));
        fault("1 at 24", module(Case.codeSection(40, 3, 0, 11)));
        fault("1 at 24", module(Case.codeSection(41, 2, 0, 11)));
        fault("1 at 24", module(Case.codeSection(45, 2, 0, 11)));
        fault("1 at 24", module(Case.codeSection(63, 1, 11)));
        fault("1 at 24", module(Case.codeSection(64, 1, 11)));
        fault("1 at 24", module(Case.codeSection(14, 61, 0, 11)));
        fault("1 at 24", module(new int[] {10, 1, 3, 0, 11}));
        fault("1 at 24", Case.module(new int[] {1, 1, 96, 0, 0}, ONE, new int[] {10, 1, 2, 0, 11, 11}));
        fault("1 at 25", Case.module(new int[] {1, 1, 96, 0, 0}, ONE, new int[] {10, 1, 2, 0, 1, 11}));
        fault("1 at 24", Case.module(new int[] {1, 1, 96, 0, 0}, ONE, new int[] {10, 1, 1, 0, 1}));
        fault("none", Case.module(new int[] {1, 1, 96, 0, 0}, ONE, new int[] {10, 1, 7, 2, 250, 1, 127, 0, 126, 11}));
        fault("1 at 23", Case.module(new int[] {1, 1, 96, 0, 0}, ONE, new int[] {10, 1, 7, 2, 251, 1, 127, 0, 126, 11}));
        fault("1 at 26", Case.module(new int[] {1, 1, 96, 0, 0}, ONE, new int[] {10, 1, 7, 2, 250, 1, 127, 1, 126, 11}));
        fault("1 at 24", Case.module(new int[] {1, 1, 96, 0, 0}, ONE, new int[] {10, 1, 4, 1, 1, 64, 11}));
        // Codes that no function has are read, too, for what cannot stand.
        fault("2 at 10", Case.module(new int[] {10, 1, 2, 0, 11}));
        fault("1 at 13", Case.module(new int[] {10, 1, 2, 0, 6}));
        fault("2 at 10", Case.module(new int[] {1, 1, 96, 0, 0}, ONE));
        deepAndLong();
    }

    private static void deepAndLong() {
        for (int blocks = 240; blocks <= 241; blocks++) {
            Codekiln x = new Codekiln();
            for (int b : Case.module(new int[] {1, 1, 96, 0, 0}, ONE)) {
                x.bytes(b, 1);
            }
            int size = blocks * 3 + 2;
            int[] head = {10, (size + 3) & 127 | 128, (size + 3) >> 7, 1, size & 127 | 128, size >> 7, 0};
            for (int b : head) {
                x.bytes(b, 1);
            }
            for (int k = 0; k < blocks; k++) {
                x.bytes(0x0240, 2);
            }
            for (int k = 0; k <= blocks; k++) {
                x.bytes(11, 1);
            }
            Case.is("read of " + blocks + " blocks", x.read(), blocks == 240 ? 0 : -1);
            Case.is("kind", x.fault(true), blocks == 240 ? 0 : 1);
            Case.is("place", x.fault(false), blocks == 240 ? -1 : 18 + 7 + 480);
        }
        for (int nops = 5999; nops <= 6000; nops++) {
            Codekiln x = new Codekiln();
            for (int b : Case.module(new int[] {1, 1, 96, 0, 0}, ONE)) {
                x.bytes(b, 1);
            }
            int size = nops + 2;
            int[] head = {10, (size + 3) & 127 | 128, (size + 3) >> 7, 1, size & 127 | 128, size >> 7, 0};
            for (int b : head) {
                x.bytes(b, 1);
            }
            for (int k = 0; k < nops; k++) {
                x.bytes(1, 1);
            }
            x.bytes(11, 1);
            Case.is("read of " + nops + " nops", x.read(), nops == 5999 ? 0 : -1);
            Case.is("place", x.fault(false), nops == 5999 ? -1 : 18 + 7 + 6000);
        }
    }

    private static void secondKind() {
        int[] types = {1, 3, 96, 0, 1, 127, 96, 1, 127, 0, 96, 1, 126, 0};
        fault("none", Case.module(types, new int[] {2, 2, 1, 'h', 3, 'p', 'u', 't', 0, 1, 1, 'h', 3, 'g', 'e', 't', 0, 0}));
        fault("2 at 2", Case.module(types, new int[] {2, 1, 1, 'i', 3, 'g', 'e', 't', 0, 0}));
        fault("2 at 2", Case.module(types, new int[] {2, 1, 0, 3, 'g', 'e', 't', 0, 0}));
        fault("2 at 2", Case.module(types, new int[] {2, 1, 1, 'h', 3, 'g', 'o', 't', 0, 0}));
        fault("2 at 2", Case.module(types, new int[] {2, 1, 1, 'h', 4, 'g', 'e', 't', 't', 0, 0}));
        fault("2 at 2", Case.module(types, new int[] {2, 1, 1, 'h', 3, 'g', 'e', 't', 0, 1}));
        fault("2 at 2", Case.module(types, new int[] {2, 1, 1, 'h', 3, 'p', 'u', 't', 0, 2}));
        fault("2 at 2", Case.module(types, new int[] {2, 1, 1, 'h', 3, 'g', 'e', 't', 0, 3}));
        fault("2 at 3", Case.module(types, new int[] {3, 1, 3}, new int[] {7, 1, 0, 0, 9}));
        int[] code = Case.codeSection(65, 0, 11);
        fault("none", Case.module(types, ONE, new int[] {7, 2, 0, 0, 0, 1, 'a', 0, 0}, code));
        fault("2 at 7", Case.module(types, ONE, new int[] {7, 2, 1, 'a', 0, 0, 1, 'a', 0, 0}, code));
        fault("2 at 7", Case.module(types, ONE, new int[] {7, 1, 1, 'a', 0, 1}, code));
        fault("none", Case.module(types, ONE, new int[] {4, 1, 112, 0, 3}, new int[] {9, 1, 0, 65, 1, 11, 2, 0, 0}, code));
        fault("2 at 9", Case.module(types, ONE, new int[] {4, 1, 112, 0, 3}, new int[] {9, 1, 0, 65, 2, 11, 2, 0, 0}, code));
        fault("2 at 9", Case.module(types, ONE, new int[] {4, 1, 112, 0, 3}, new int[] {9, 1, 0, 65, 127, 11, 2, 0, 0}, code));
        fault("2 at 9", Case.module(types, ONE, new int[] {4, 1, 112, 0, 3}, new int[] {9, 1, 0, 65, 1, 11, 2, 0, 1}, code));
        fault("none", Case.module(types, ONE, new int[] {4, 1, 112, 0, 3}, new int[] {9, 1, 0, 65, 3, 11, 0}, code));
        fault("2 at 9", Case.module(types, ONE, new int[] {4, 1, 112, 0, 3}, new int[] {9, 1, 0, 65, 4, 11, 0}, code));
        fault("2 at 9", Case.module(types, ONE, new int[] {9, 1, 0, 65, 1, 11, 0}, code));
        fault("2 at 10", Case.module(types, new int[] {3, 2, 0, 0}, code));
        fault("none", Case.module(new int[] {5, 1, 1, 1, 1}, new int[] {11, 1, 0, 65, 255, 7, 11, 1, 9}));
        fault("2 at 11", Case.module(new int[] {5, 1, 1, 1, 1}, new int[] {11, 1, 0, 65, 128, 8, 11, 1, 9}));
        fault("none", Case.module(new int[] {5, 1, 1, 1, 1}, new int[] {11, 1, 0, 65, 128, 8, 11, 0}));
        fault("2 at 11", Case.module(new int[] {5, 1, 1, 1, 1}, new int[] {11, 1, 0, 65, 129, 8, 11, 0}));
        fault("2 at 11", Case.module(new int[] {5, 1, 1, 1, 1}, new int[] {11, 1, 0, 65, 127, 11, 0}));
        fault("2 at 11", Case.module(new int[] {11, 1, 0, 65, 0, 11, 1, 9}));
        // The first section comes first, and what cannot stand comes ahead of all.
        fault("2 at 7", Case.module(new int[] {7, 1, 0, 0, 9}, new int[] {10, 1, 2, 0, 11}));
        fault("1 at 19", Case.module(new int[] {7, 1, 0, 0, 9}, new int[] {10, 1, 2, 0, 6}));
    }

    /** Function 0: of i32 and i64 an i32; a memory, a table, globals (i32 changing, i64 not) are there. */
    private static void check(int wrongAt, int... code) {
        int[] module = Case.module(TYPES, new int[] {3, 1, 1}, new int[] {4, 1, 112, 0, 1}, new int[] {5, 1, 1, 1, 1},
            new int[] {6, 2, 127, 1, 65, 0, 11, 126, 0, 66, 0, 11}, Case.codeSection(code));
        fault(wrongAt < 0 ? "none" : "3 at " + wrongAt, module);
    }

    private static void valid() {
        check(-1, 65, 0, 11);
        check(0, 11);
        check(2, 65, 0, 65, 0, 11);
        check(1, 66, 0, 11);
        check(1, 32, 1, 11);
        check(0, 32, 2, 11);
        check(1, 66, 0, 33, 0, 65, 0, 11);
        check(-1, 66, 0, 34, 1, 26, 65, 0, 11);
        check(-1, 35, 0, 36, 0, 35, 1, 26, 65, 0, 11);
        check(1, 35, 1, 36, 1, 65, 0, 11);
        check(0, 35, 2, 11);
        check(2, 65, 0, 32, 1, 106, 11);
        check(1, 65, 0, 106, 11);
        check(-1, 66, 0, 66, 0, 81, 11);
        check(-1, 66, 0, 80, 66, 0, 167, 106, 11);
        check(1, 65, 0, 167, 11);
        check(1, 66, 0, 172, 11);
        check(-1, 65, 0, 40, 2, 0, 11);
        check(1, 66, 0, 40, 2, 0, 11);
        check(-1, 65, 0, 66, 0, 55, 3, 0, 65, 0, 45, 0, 0, 11);
        check(2, 65, 0, 66, 0, 54, 2, 0, 65, 0, 11);
        check(2, 65, 0, 66, 0, 58, 0, 0, 65, 0, 11);
        check(-1, 63, 0, 64, 0, 11);
        check(-1, 65, 0, 65, 1, 65, 2, 27, 11);
        check(3, 65, 0, 66, 1, 65, 2, 27, 11);
        check(0, 26, 65, 0, 11);
        check(-1, 65, 0, 66, 0, 16, 0, 11);
        check(2, 66, 0, 65, 0, 16, 0, 11);
        check(2, 65, 0, 66, 0, 16, 1, 11);
        check(-1, 65, 0, 66, 0, 65, 0, 17, 1, 0, 11);
        check(3, 65, 0, 66, 0, 65, 0, 17, 3, 0, 11);
        check(2, 65, 0, 66, 0, 17, 1, 0, 11);
        int[] bare = {1, 1, 96, 0, 0};
        fault("3 at 0", Case.module(bare, ONE, Case.codeSection(63, 0, 26, 11)));
        fault("3 at 1", Case.module(bare, ONE, Case.codeSection(65, 0, 40, 2, 0, 26, 11)));
        fault("3 at 1", Case.module(bare, ONE, Case.codeSection(65, 0, 17, 0, 0, 11)));
        // The place tells the function, too, imports counted.
        fault("3 at 20001", Case.module(new int[] {1, 2, 96, 0, 1, 127, 96, 0, 0},
            new int[] {2, 1, 1, 'h', 3, 'g', 'e', 't', 0, 0}, new int[] {3, 2, 1, 1},
            new int[] {10, 2, 2, 0, 11, 4, 0, 1, 26, 11}));
    }

    private static void deadCode() {
        check(-1, 0, 11);
        check(-1, 0, 106, 11);
        check(-1, 0, 26, 26, 65, 0, 11);
        check(2, 0, 66, 0, 11);
        check(3, 0, 65, 0, 65, 0, 11);
        check(3, 0, 65, 0, 66, 0, 106, 11);
        check(-1, 0, 27, 11);
        check(-1, 0, 65, 0, 65, 1, 27, 11);
        check(4, 0, 66, 0, 65, 1, 27, 11);
        check(-1, 0, 27, 27, 106, 11);
        check(2, 0, 2, 64, 26, 11, 11);
        check(2, 0, 2, 127, 11, 11);
        check(-1, 65, 5, 15, 26, 26, 80, 11);
        check(-1, 2, 64, 12, 0, 106, 26, 11, 65, 0, 11);
        check(0, 15, 11);
        check(-1, 32, 0, 4, 127, 0, 5, 65, 1, 11, 11);
    }

    /** br_if puts again what it took, as the SORT that it is; UNKNOWN stays UNKNOWN. */
    private static void branchesInDeadCode() {
        check(-1, 2, 127, 0, 13, 0, 80, 11, 11);
        check(-1, 2, 127, 0, 13, 0, 69, 11, 11);
        check(-1, 0, 13, 0, 80, 11);
        check(-1, 0, 13, 0, 13, 0, 80, 11);
        check(-1, 0, 27, 13, 0, 80, 11);
        check(-1, 0, 65, 0, 13, 0, 80, 11);
        check(3, 0, 13, 0, 172, 11);
        check(4, 0, 13, 0, 80, 172, 11);
        // What is known is put again as it is: nothing may stand for it.
        check(4, 0, 65, 5, 65, 1, 13, 0, 80, 11);
        check(-1, 0, 65, 5, 65, 1, 13, 0, 69, 11);
        check(3, 65, 5, 65, 1, 13, 0, 80, 11);
        check(3, 0, 66, 5, 65, 1, 13, 0, 11);
        check(2, 0, 66, 5, 13, 0, 11);
        // To a loop, or a block without a value, it puts nothing.
        check(-1, 3, 127, 0, 13, 0, 80, 11, 11);
        check(5, 0, 2, 64, 0, 13, 0, 66, 5, 11, 11);
        // It lies there above the height: one more is one too many.
        check(3, 0, 13, 0, 65, 0, 11);
        check(-1, 0, 13, 0, 26, 26, 65, 0, 11);
        check(-1, 0, 13, 0, 65, 0, 27, 11);
        check(-1, 0, 13, 0, 66, 0, 66, 0, 81, 27, 11);
    }

    /** What a pass makes of VALID dead code is VALID. */
    private static void passesOverDeadCode() {
        int[][] codes = {{0, 13, 0, 80, 11}, {2, 127, 0, 13, 0, 80, 11, 11}, {0, 27, 13, 0, 80, 11},
            {0, 65, 1, 13, 0, 80, 11}, {0, 65, 0, 13, 0, 80, 11}, {0, 69, 69, 13, 0, 80, 11}};
        for (int[] code : codes) {
            Codekiln x = new Codekiln();
            Case.setBytes(x, Case.module(new int[] {1, 1, 96, 0, 1, 127}, ONE, Case.codeSection(code)));
            Case.is("read", x.read(), 0);
            for (int k = 0; k < 7; k++) {
                Case.is("isSteady(0, " + k + ")", x.isSteady(0, k), true);
            }
            x.passes(0, 127);
            Case.is("errors", x.errors(), 0);
        }
    }

    private static void branches() {
        check(-1, 2, 127, 65, 0, 11, 11);
        check(1, 2, 127, 11, 11);
        check(2, 2, 64, 65, 0, 11, 65, 0, 11);
        check(3, 2, 127, 65, 0, 65, 0, 11, 11);
        check(2, 65, 0, 2, 64, 26, 11, 11);
        check(-1, 32, 0, 4, 127, 65, 1, 5, 65, 2, 11, 11);
        check(3, 32, 0, 4, 127, 65, 1, 11, 11);
        check(-1, 32, 0, 4, 64, 11, 65, 0, 11);
        check(0, 4, 64, 11, 65, 0, 11);
        check(1, 32, 1, 4, 64, 11, 65, 0, 11);
        check(1, 2, 64, 5, 11, 65, 0, 11);
        check(0, 5, 11);
        check(3, 32, 0, 4, 64, 5, 5, 11, 65, 0, 11);
        check(-1, 2, 127, 65, 0, 12, 0, 11, 11);
        check(1, 2, 127, 12, 0, 11, 11);
        check(-1, 3, 127, 12, 0, 11, 11);
        check(-1, 65, 1, 12, 0, 11);
        check(1, 65, 1, 12, 1, 11);
        check(1, 2, 64, 12, 2, 11, 65, 0, 11);
        check(-1, 2, 127, 65, 1, 32, 0, 13, 0, 11, 11);
        check(2, 2, 127, 32, 0, 13, 0, 11, 11);
        check(-1, 2, 64, 3, 64, 32, 0, 14, 1, 0, 1, 11, 11, 65, 0, 11);
        check(4, 2, 127, 2, 64, 65, 0, 32, 0, 14, 1, 0, 1, 11, 65, 0, 11, 11);
        check(-1, 2, 127, 2, 127, 65, 0, 32, 0, 14, 1, 0, 1, 11, 11, 11);
        check(2, 2, 64, 32, 0, 14, 0, 3, 11, 65, 0, 11);
        check(-1, 65, 3, 65, 1, 14, 0, 0, 11);
    }

    private static void sameOnes() {
        Codekiln x = Case.made("int f(int a){return a;}");
        x.write(0);
        x.read();
        Case.is("same(0, 1)", x.same(0, 1), true);
        Case.is("read is of no program", x.moduleIs(1, 9), 0);
        int size = x.cutBytes(bytesOf(x));
        int others = 0;
        for (int k = 0; k < size && others < 9; k++) {
            int was = x.byteAt(k);
            x.setByte(k, was ^ 1);
            if (x.read() != Codekiln.NONE) {
                others++;
                Case.is("same with another byte " + k, x.same(0, 1 + others), false);
                Case.is("same with itself", x.same(1 + others, 1 + others), true);
            }
            x.setByte(k, was);
        }
        Case.is("others", others > 4, true);
    }

    private static void roundTrip() {
        Codekiln x = new Codekiln();
        for (int k = 0; k < 8; k++) {
            x.piece(k);
        }
        Case.is("names that come twice", x.faultKind(), 2);
        x.clearText();
        x.piece(1);
        x.piece(2);
        x.piece(5);
        x.load();
        x.make(0);
        x.passes(0, 127);
        for (int k = 0; k < 2; k++) {
            int size = x.write(k);
            Case.is("moduleIs(" + k + ", 8)", x.moduleIs(k, 8), size);
            int read = x.read();
            Case.is("read", read, 2 + k);
            Case.is("same", x.same(k, read), true);
            Case.is("the BYTES stay", x.cutBytes(size), size);
            Case.is("the fault", x.fault(true), 0);
        }
        Case.is("other ones", x.same(0, 1), false);
        x.bytes(0, 1);
        Case.is("read with a byte more", x.read(), -1);
        Case.is("the fault", x.fault(true), 1);
        Case.is("its place", x.fault(false), x.moduleIs(1, 8));
        x.write(0);
        for (int k = 4; k < 12; k++) {
            Case.is("read", x.read(), k);
        }
        Case.noState("read a 13th", () -> x.read());
        x.cutBytes(3);
        Case.noState("read a 13th, though there is a fault", () -> x.read());
        Case.is("the latest fault", x.fault(true), 0);
        Case.is("clearModules", x.clearModules(), 12);
        Case.is("read", x.read(), -1);
        Case.is("its place", x.fault(false), 3);
    }

    /** 20 functions that call a leaf of 30 instructions 49 times each: behind INLINE they are too long to be written. */
    private static void tooManyBytes() {
        Codekiln x = new Codekiln();
        int functions = 20;
        int[] declared = new int[functions + 3];
        declared[0] = 3;
        declared[1] = functions + 1;
        for (int b : Case.module(new int[] {1, 1, 96, 0, 0}, declared)) {
            x.bytes(b, 1);
        }
        int size = 1 + 32 + functions * 101;
        x.bytes(10, 1);
        x.bytes(size & 127 | 128, 1);
        x.bytes(size >> 7, 1);
        x.bytes(functions + 1, 1);
        x.bytes(31 << 8, 2);
        for (int k = 0; k < 29; k++) {
            x.bytes(1, 1);
        }
        x.bytes(11, 1);
        for (int f = 0; f < functions; f++) {
            x.bytes(100 << 8, 2);
            for (int k = 0; k < 49; k++) {
                x.bytes(16 << 8, 2);
            }
            x.bytes(11, 1);
        }
        Case.is("read at " + x.fault(false), x.read(), 0);
        x.pass(0, 0);
        Case.is("bytes", x.moduleIs(1, 8) > 20000, true);
        Case.noState("write", () -> x.write(1));
        Case.is("the BYTES stay", x.byteAt(0) == 0 && x.byteAt(1) == 97, true);
        Case.is("the module that was read", x.write(0), x.moduleIs(0, 8));
        Case.is("errors", x.errors(), 0);
        Case.is("isSteady", x.isSteady(1, 1), true);
        Codekiln y = new Codekiln();
        for (int k = 0; k < 2500; k++) {
            y.bytes(k, 8);
        }
        Case.noState("a 20001st byte", () -> y.bytes(1, 1));
        Case.noArgument("9 bytes beside 20000", () -> y.bytes(1, 9));
        Case.is("cutBytes", y.cutBytes(19999), 20000);
        Case.noState("2 bytes more", () -> y.bytes(1, 2));
        Case.is("one byte more", y.bytes(1, 1), 20000);
    }
}
