import java.util.ArrayList;

/** The edges of section 6 (promises 11 and 12): where a pass still does something, and where it does nothing any more. */
public final class PassEdgeTest {
    private static final int[] WORD_OPS = {70, 71, 72, 73, 74, 75, 76, 77, 78, 79, 106, 107, 108, 109, 111, 113, 114, 115, 116, 117, 118};
    private static final int[] WORDS = {0, 1, -1, 2, 31, 32, 33, Integer.MAX_VALUE, Integer.MIN_VALUE};
    private static final long[] LONGS = {0, 1, -1, 2, 63, 64, 65, Long.MAX_VALUE, Long.MIN_VALUE};

    public static void main(String[] args) {
        leaves();
        instructionsOfInlined();
        localsOfInlined();
        openOfInlined();
        inlinedReturns();
        pairs();
        foldedWords();
        foldedLongs();
        foldedOnes();
        neutralConsts();
        powers();
        comparisons();
        zeroTests();
        bytes();
        decided();
        dead();
        blocks();
        jumps();
        stores();
        shares();
        sharesInDeadCode();
        bits();
        leavesBehindTheirCallers();
        closedBlocksDoNotCount();
        parametersAndLocalsCount();
        onesAheadFitAgain();
        ifsFurtherBehind();
        blocksFitAgain();
        placesBeyondInnerBlocks();
        manyLocals();
        liveInBranches();
        inlinedByTwos();
        rowsAlike();
        Case.end();
    }

    private static int[] row(Object... parts) {
        ArrayList<Integer> all = new ArrayList<>();
        for (Object part : parts) {
            if (part instanceof Integer) {
                all.add((Integer) part);
            } else {
                for (int one : (int[]) part) {
                    all.add(one);
                }
            }
        }
        int[] row = new int[all.size()];
        for (int k = 0; k < row.length; k++) {
            row[k] = all.get(k);
        }
        return row;
    }

    /** A number (s), as few groups as needed. */
    private static int[] number(long number) {
        ArrayList<Integer> all = new ArrayList<>();
        long rest = number;
        boolean more = true;
        while (more) {
            int group = (int) (rest & 127);
            rest >>= 7;
            more = !(rest == 0 && group < 64 || rest == -1 && group >= 64);
            all.add(group | (more ? 128 : 0));
        }
        return row(all.stream().mapToInt(k -> k).toArray());
    }

    private static int[] word(long number) {
        return row(65, number(number));
    }

    private static int[] wide(long number) {
        return row(66, number(number));
    }

    private static void peep(String want, Object... parts) {
        PassTest.pass(1, want, row(parts));
    }

    private static void stays(Object... parts) {
        int[] code = row(parts);
        PassTest.pass(1, Case.code(PassTest.read(code), 0, 0), code);
    }

    private static int callsLeft(Codekiln x) {
        x.pass(0, 0);
        Case.is("errors", x.errors(), 0);
        Case.is("isSteady", x.isSteady(0, 0), true);
        Case.is("alike", x.alike(0, 0, 1, 0, 0, 0), 1);
        return x.countOf(1, 16);
    }

    /** A LEAF has no call and no call_indirect, and at most 30 instructions. */
    private static void leaves() {
        Case.is("a leaf of 30", callsLeft(PassTest.calling(29, 0, 1, 0, 0)), 0);
        Case.is("one of 31", callsLeft(PassTest.calling(30, 0, 1, 0, 0)), 1);
        Case.is("a leaf of 1", callsLeft(PassTest.calling(0, 0, 1, 0, 0)), 0);
        Codekiln x = Case.made("int(*p)(int);int a(int n){return n;}int b(){return get();}int c(){return p(1);}int d(int n){return n?d(n-1):a(n);}"
            + "int e(){return b();}int g(){return c();}int h(){return d(2);}int i(){return a(5);}");
        x.pass(0, 0);
        int[] due = {0, 1, 0, 1, 1, 1, 1, 0};
        for (int f = 0; f < due.length; f++) {
            int calls = 0;
            for (String op : Case.code(x, 1, f + 2).split(" ")) {
                calls += op.startsWith("16.") ? 1 : 0;
            }
            Case.is("calls left in " + f, calls, due[f]);
        }
        // One that is a leaf only behind the others, and one ahead of its leaf.
        Codekiln y = Case.made("int a(int n);int b(int n){return a(n);}int a(int n){return n;}int c(int n){return b(b(n));}");
        y.pass(0, 0);
        Case.is("calls left", y.countOf(1, 16), 0);
        Case.is("types stay", y.moduleIs(1, 0), y.moduleIs(0, 0));
        Case.is("functions stay", y.moduleIs(1, 2), 3);
    }

    /** Behind it at most 1500 instructions: a leaf of k, without parameters and locals, makes k + 1 of 1. */
    private static void instructionsOfInlined() {
        int[][] due = {{28, 49}, {28, 50}, {28, 51}, {9, 136}, {9, 137}, {1, 499}, {1, 500}, {2, 374}, {2, 375}};
        for (int[] one : due) {
            int leaf = one[0] + 1;
            int calls = one[1];
            int inlined = Math.min(calls, (1500 - calls - 1) / leaf);
            Codekiln x = PassTest.calling(one[0], 0, calls, 0, 0);
            Case.is(calls + " calls of a leaf of " + leaf, callsLeft(x), calls - inlined);
            Case.is("instructions", x.functionAt(1, 1, 3), calls + 1 + inlined * leaf);
        }
        // 1 + 2 * 749 = 1499 with the end; one nop more is 1500, two are 1501.
        for (int nops = 0; nops < 4; nops++) {
            Codekiln x = padded(nops);
            int whole = 749 * 2 + 1 + nops;
            Case.is("calls left of " + whole, callsLeft(x), whole <= 1500 ? 0 : whole - 1500);
            Case.is("instructions", x.functionAt(1, 1, 3), Math.min(whole, 1500));
        }
    }

    /** 749 calls of an empty leaf and some nops. */
    private static Codekiln padded(int nops) {
        Codekiln x = new Codekiln();
        int size = 1 + 749 * 2 + nops + 1;
        int all = 1 + 3 + 2 + size;
        int[] bytes = Case.module(new int[] {1, 1, 96, 0, 0}, new int[] {3, 2, 0, 0}, new int[] {7, 1, 1, 'f', 0, 1});
        int[] codes = row(bytes, 10, all & 127 | 128, all >> 7, 2, 2, 0, 11, size & 127 | 128, size >> 7, 0);
        byte[] whole = new byte[codes.length + 749 * 2 + nops + 1];
        for (int k = 0; k < codes.length; k++) {
            whole[k] = (byte) codes[k];
        }
        int at = codes.length;
        for (int k = 0; k < nops; k++) {
            whole[at++] = 1;
        }
        for (int k = 0; k < 749; k++) {
            whole[at++] = 16;
            whole[at++] = 0;
        }
        whole[at] = 11;
        Case.addAll(x, whole);
        Case.is("read at " + x.fault(false), x.read(), 0);
        return x;
    }

    /** Behind it at most 200 locals beyond the parameters: the leaf's parameters and locals come behind. */
    private static void localsOfInlined() {
        int[][] due = {{100, 100, 1, 0}, {100, 101, 1, 1}, {200, 0, 1, 0}, {201, 0, 1, 1}, {0, 200, 1, 0}, {0, 201, 3, 3}, {1, 199, 1, 0},
            {1, 200, 1, 1}, {50, 50, 3, 0}, {50, 51, 3, 1}, {67, 0, 3, 1}, {66, 2, 3, 0}, {66, 3, 3, 1}};
        for (int[] one : due) {
            // A leaf of 4 instructions and locals, a caller of locals and calls.
            Codekiln x = PassTest.calling(3, one[0], one[2], one[1], 0);
            Case.is(one[2] + " calls of " + one[0] + " locals by " + one[1], callsLeft(x), one[3]);
        }
        // Parameters count, too.
        Codekiln x = new Codekiln();
        Case.setBytes(x, Case.module(new int[] {1, 2, 96, 2, 127, 126, 0, 96, 0, 0}, new int[] {3, 3, 0, 1, 1},
            new int[] {10, 3, 4, 1, 1, 127, 11, 11, 1, 197, 1, 127, 65, 1, 66, 2, 16, 0, 11, 11, 1, 198, 1, 127, 65, 1, 66, 2, 16, 0, 11}));
        Case.is("read at " + x.fault(false), x.read(), 0);
        x.pass(0, 0);
        Case.is("197 and 3", x.functionAt(1, 1, 2), 200);
        Case.is("198 and 3", x.functionAt(1, 2, 2), 198);
        Case.is("code", Case.code(x, 1, 1), "65.1 66.2 33.198 33.197 65.0 33.199 2.64 11 11");
    }

    /** At its deepest place at most 200 blocks, loops and ifs are open then. */
    private static void openOfInlined() {
        Case.is("199 and 1", callsLeft(PassTest.calling(2, 0, 1, 0, 199)), 0);
        Case.is("200 and 1", callsLeft(PassTest.calling(2, 0, 1, 0, 200)), 1);
        // A leaf of 14 blocks, called within 185 and within 186: 200 and 201.
        for (int deep = 185; deep < 187; deep++) {
            Codekiln x = new Codekiln();
            int size = 1 + deep * 3 + 2 + 1;
            int all = 1 + 1 + 44 + 2 + size;
            int[] bytes = Case.module(new int[] {1, 1, 96, 0, 0}, new int[] {3, 2, 0, 0}, new int[] {7, 1, 1, 'f', 0, 1});
            int[] head = row(bytes, 10, all & 127 | 128, all >> 7, 2, 44, 0, times(14, 2, 64), times(15, 11), size & 127 | 128, size >> 7, 0,
                times(deep, 2, 64), 16, 0, times(deep + 1, 11));
            byte[] whole = new byte[head.length];
            for (int k = 0; k < head.length; k++) {
                whole[k] = (byte) head[k];
            }
            Case.addAll(x, whole);
            Case.is("read at " + x.fault(false), x.read(), 0);
            Case.is("open at the deepest place: " + (deep + 15), callsLeft(x), deep == 185 ? 0 : 1);
        }
        // A function that is deeper elsewhere takes no leaf at all.
        Codekiln x = PassTest.calling(2, 0, 1, 0, 201);
        Case.is("more than 200 ahead", callsLeft(x), 1);
    }

    private static int[] times(int many, int... one) {
        int[] all = new int[many * one.length];
        for (int k = 0; k < all.length; k++) {
            all[k] = one[k % one.length];
        }
        return all;
    }

    /** br d for return, d being how many are open there; the last end alone is gone. */
    private static void inlinedReturns() {
        Codekiln x = new Codekiln();
        Case.setBytes(x, Case.module(new int[] {1, 1, 96, 1, 127, 1, 127}, new int[] {3, 2, 0, 0}, new int[] {7, 1, 1, 'f', 0, 1},
            new int[] {10, 2, 24, 0, 2, 64, 3, 64, 32, 0, 4, 64, 65, 5, 15, 11, 65, 6, 15, 11, 65, 7, 12, 1, 11, 0, 11,
                6, 0, 32, 0, 16, 0, 11}));
        Case.is("read at " + x.fault(false), x.read(), 0);
        x.pass(0, 0);
        Case.is("code", Case.code(x, 1, 1), "32.0 33.1 2.127 2.64 3.64 32.1 4.64 65.5 12.3 11 65.6 12.2 11 65.7 12.1 11 0 11 11");
        Case.is("alike", x.alike(0, 0, 1, 0, 0, 0), 1);
        Case.is("alike", x.alike(0, 0, 127, 1, 0, 0), 1);
    }

    /** (a) to (f), and what is like them but for the local or what stands between. */
    private static void pairs() {
        peep("65.1 11", 1, 1, 1, 65, 1, 1, 11);
        peep("65.1 34.0 11", 65, 1, 33, 0, 32, 0, 11);
        stays(65, 1, 33, 0, 32, 2, 11);
        stays(65, 1, 33, 0, 2, 64, 11, 32, 0, 11);
        peep("65.1 33.0 65.2 11", 65, 1, 34, 0, 26, 65, 2, 11);
        peep("65.1 34.0 33.2 65.2 11", 65, 1, 34, 0, 34, 2, 26, 65, 2, 11);
        peep("65.1 11", 32, 0, 26, 65, 1, 11);
        peep("65.1 11", 32, 1, 26, 65, 1, 11);
        peep("65.1 11", 65, 5, 26, 66, 5, 26, 35, 0, 26, 63, 0, 26, 65, 1, 11);
        stays(32, 0, 69, 26, 65, 1, 11);
        stays(65, 1, 64, 0, 26, 65, 1, 11);
        peep("65.1 11", 32, 0, 33, 0, 65, 1, 11);
        stays(32, 0, 33, 2, 65, 1, 11);
        peep("32.0 11", 32, 0, 34, 0, 11);
        stays(32, 0, 34, 2, 11);
        stays(35, 0, 36, 0, 65, 1, 11);
    }

    private static Long made(int op, long left, long right, boolean isLong) {
        long by = right & (isLong ? 63 : 31);
        long least = isLong ? Long.MIN_VALUE : Integer.MIN_VALUE;
        int order = Long.compare(left, right);
        int unsigned = isLong ? Long.compareUnsigned(left, right) : Integer.compareUnsigned((int) left, (int) right);
        boolean[] holds = {order == 0, order != 0, order < 0, unsigned < 0, order > 0, unsigned > 0, order <= 0, unsigned <= 0, order >= 0,
            unsigned >= 0};
        if (op <= 79) {
            return holds[op - 70] ? 1L : 0L;
        }
        if ((op == 109 || op == 111) && right == 0 || op == 109 && left == least && right == -1) {
            return null;
        }
        long made = op == 106 ? left + right : op == 107 ? left - right : op == 108 ? left * right : op == 109 ? left / right
            : op == 111 ? left % right : op == 113 ? left & right : op == 114 ? left | right : op == 115 ? left ^ right
            : op == 116 ? left << by : op == 117 ? left >> by : isLong ? left >>> by : (int) left >>> by;
        return isLong ? made : (long) (int) made;
    }

    /** (g): two consts and an instruction that takes two of their SORT, without a trap. */
    private static void foldedWords() {
        for (int op : WORD_OPS) {
            for (int left : WORDS) {
                for (int right : WORDS) {
                    Long due = made(op, left, right, false);
                    String want = due == null ? "65." + left + " 65." + right + " " + op + " 11" : "65." + due + " 11";
                    PassTest.pass(1, want, row(word(left), word(right), op, 11));
                }
            }
        }
    }

    private static void foldedLongs() {
        for (int op : WORD_OPS) {
            boolean compares = op < 80;
            int wide = compares ? op + 11 : op + 18;
            for (long left : LONGS) {
                for (long right : LONGS) {
                    Long due = made(op, left, right, true);
                    String both = "66." + left + " 66." + right + " " + wide;
                    if (compares) {
                        PassTest.pass(1, "65." + due + " 11", row(wide(left), wide(right), wide, 11));
                    } else if (due == null) {
                        PassTest.pass(1, both + " 33.1 65.0 11", row(wide(left), wide(right), wide, 33, 1, 65, 0, 11));
                    } else {
                        PassTest.pass(1, "66." + due + " 33.1 65.0 11", row(wide(left), wide(right), wide, 33, 1, 65, 0, 11));
                    }
                }
            }
        }
    }

    /** (h): a const and eqz, wrap or extend. */
    private static void foldedOnes() {
        for (int one : WORDS) {
            peep("65." + (one == 0 ? 1 : 0) + " 11", word(one), 69, 11);
            peep("66." + (long) one + " 33.1 65.0 11", word(one), 172, 33, 1, 65, 0, 11);
        }
        for (long one : LONGS) {
            peep("65." + (one == 0 ? 1 : 0) + " 11", wide(one), 80, 11);
            peep("65." + (int) one + " 11", wide(one), 167, 11);
        }
        peep("65.0 11", wide(1L << 32), 167, 11);
        peep("65.-1 11", wide((1L << 32) - 1), 167, 11);
        peep("65.-2147483648 11", wide(1L << 31), 167, 11);
    }

    /** (i), (j): which consts go with which instruction; (k) comes behind. */
    private static void neutralConsts() {
        int[] ops = {106, 107, 108, 109, 111, 113, 114, 115, 116, 117, 118};
        for (int op : ops) {
            for (int number : new int[] {0, 1, -1, 3, -2, Integer.MIN_VALUE, Integer.MAX_VALUE}) {
                boolean goes = number == 0 && (op == 106 || op == 107 || op > 113) || number == 1 && (op == 108 || op == 109)
                    || number == -1 && op == 113;
                peep(goes ? "32.0 11" : "32.0 65." + number + " " + op + " 11", 32, 0, word(number), op, 11);
                peep(goes ? "32.1 167 11" : "32.1 66." + number + " " + (op + 18) + " 167 11", 32, 1, wide(number), op + 18, 167, 11);
            }
        }
        peep("32.0 69 11", 32, 0, 65, 0, 70, 11);
        peep("32.1 80 11", 32, 1, 66, 0, 81, 11);
        stays(32, 0, 65, 1, 70, 11);
        stays(32, 1, 66, 1, 81, 11);
        for (int op = 71; op <= 79; op++) {
            stays(32, 0, 65, 0, op, 11);
            stays(32, 1, 66, 0, op + 11, 11);
        }
        // 4294967296 is not 0, and not 1.
        stays(32, 1, wide(1L << 32), 124, 167, 11);
        stays(32, 1, wide((1L << 32) + 1), 126, 167, 11);
        stays(32, 1, wide((1L << 32) - 1), 131, 167, 11);
        stays(32, 1, wide(1L << 32), 81, 11);
    }

    /** (k): powers of 2 from 2 on; the least number is none. */
    private static void powers() {
        for (int bits = 1; bits < 31; bits++) {
            peep("32.0 65." + bits + " 116 11", 32, 0, word(1 << bits), 108, 11);
            stays(32, 0, word(-(1 << bits)), 108, 11);
            if (bits > 1) {
                stays(32, 0, word((1 << bits) + 1), 108, 11);
                stays(32, 0, word((1 << bits) - 1), 108, 11);
            }
        }
        for (int bits = 1; bits < 63; bits++) {
            peep("32.1 66." + bits + " 134 167 11", 32, 1, wide(1L << bits), 126, 167, 11);
            stays(32, 1, wide(-(1L << bits)), 126, 167, 11);
            if (bits > 1) {
                stays(32, 1, wide((1L << bits) - 1), 126, 167, 11);
            }
        }
        stays(32, 0, word(Integer.MIN_VALUE), 108, 11);
        stays(32, 1, wide(Long.MIN_VALUE), 126, 167, 11);
        stays(32, 0, 65, 0, 108, 11);
        stays(32, 0, word(4), 109, 11);
        peep("32.0 11", 32, 0, 65, 1, 108, 11);
    }

    /** (m), (o): each comparison of both SORTS, and eqz. */
    private static void comparisons() {
        int[] contrary = {71, 70, 78, 79, 76, 77, 74, 75, 72, 73};
        for (int k = 0; k < 10; k++) {
            peep("32.0 65.5 " + (70 + k) + " 11", 32, 0, 65, 5, 70 + k, 65, 0, 71, 11);
            peep("32.1 66.5 " + (81 + k) + " 11", 32, 1, 66, 5, 81 + k, 65, 0, 71, 11);
            stays(32, 0, 65, 5, 70 + k, 65, 1, 71, 11);
            peep("32.0 65.5 " + contrary[k] + " 11", 32, 0, 65, 5, 70 + k, 65, 0, 70, 11);
            peep("32.0 65.5 " + contrary[k] + " 11", 32, 0, 65, 5, 70 + k, 69, 11);
            peep("32.1 66.5 " + (contrary[k] + 11) + " 11", 32, 1, 66, 5, 81 + k, 69, 11);
            peep("32.0 65.5 " + (70 + k) + " 11", 32, 0, 65, 5, 70 + k, 69, 69, 11);
        }
        peep("32.0 69 11", 32, 0, 69, 65, 0, 71, 11);
        peep("32.1 80 11", 32, 1, 80, 65, 0, 71, 11);
        stays(32, 0, 65, 0, 71, 11);
        stays(32, 1, 167, 65, 0, 71, 11);
        stays(32, 0, 65, 5, 106, 65, 0, 71, 11);
    }

    /** (n): const 0, ne of i32 alone, ahead of if, br_if or eqz; two eqz ahead of if or br_if. */
    private static void zeroTests() {
        peep("32.0 4.64 11 65.1 11", 32, 0, 65, 0, 71, 4, 64, 1, 11, 65, 1, 11);
        peep("2.64 32.0 13.0 11 65.1 11", 2, 64, 32, 0, 65, 0, 71, 13, 0, 11, 65, 1, 11);
        peep("32.0 69 11", 32, 0, 65, 0, 71, 69, 11);
        stays(32, 0, 65, 1, 71, 4, 64, 11, 65, 1, 11);
        stays(32, 1, 66, 0, 82, 4, 64, 11, 65, 1, 11);
        stays(2, 64, 32, 1, 66, 0, 82, 13, 0, 11, 65, 1, 11);
        peep("32.1 80 11", 32, 1, 66, 0, 82, 69, 11);
        stays(65, 3, 65, 4, 32, 0, 65, 0, 71, 27, 11);
        stays(2, 64, 32, 0, 65, 0, 71, 14, 0, 0, 11, 65, 1, 11);
        peep("32.0 4.64 11 65.1 11", 32, 0, 69, 69, 4, 64, 11, 65, 1, 11);
        peep("2.64 32.0 13.0 11 65.1 11", 2, 64, 32, 0, 69, 69, 13, 0, 11, 65, 1, 11);
        stays(32, 0, 69, 69, 11);
        stays(32, 1, 80, 69, 4, 64, 11, 65, 1, 11);
        stays(32, 0, 69, 4, 64, 11, 65, 1, 11);
        peep("32.0 69 4.64 11 65.1 11", 32, 0, 69, 69, 69, 4, 64, 11, 65, 1, 11);
    }

    /** (p): c has all of the lowest 8 bits. */
    private static void bytes() {
        for (int c : new int[] {255, 511, 65535, Integer.MAX_VALUE, -257}) {
            boolean has = (c & 255) == 255;
            String mask = has ? "" : "65." + c + " 113 ";
            peep("65.8 32.0 " + mask + "58.0 65.1 11", 65, 8, 32, 0, word(c), 113, 58, 0, 0, 65, 1, 11);
            peep("32.0 45.0 " + mask.trim() + (has ? "11" : " 11"), 32, 0, 45, 0, 0, word(c), 113, 11);
        }
        for (int c : new int[] {254, 127, 0, 256, 65280, -2, -256}) {
            stays(65, 8, 32, 0, word(c), 113, 58, 0, 0, 65, 1, 11);
            stays(32, 0, 45, 0, 0, word(c), 113, 11);
        }
        stays(65, 8, 32, 0, word(255), 113, 54, 2, 0, 65, 1, 11);
        stays(65, 8, 32, 0, word(255), 114, 58, 0, 0, 65, 1, 11);
        stays(32, 0, 40, 2, 0, word(255), 113, 11);
        stays(32, 0, 45, 0, 0, word(255), 114, 11);
        stays(32, 0, word(255), 113, 11);
    }

    /** (q), (r): a const that is 0, or not. */
    private static void decided() {
        for (int c : new int[] {1, -1, 2, 256, Integer.MIN_VALUE}) {
            peep("2.64 12.0 11 65.1 11", 2, 64, word(c), 13, 0, 11, 65, 1, 11);
            peep("2.64 32.0 33.2 11 65.1 11", word(c), 4, 64, 32, 0, 33, 2, 5, 32, 2, 33, 0, 11, 65, 1, 11);
            peep("2.64 32.0 33.2 11 65.1 11", word(c), 4, 64, 32, 0, 33, 2, 11, 65, 1, 11);
        }
        peep("2.64 11 65.1 11", 2, 64, 65, 0, 13, 0, 11, 65, 1, 11);
        peep("2.64 32.2 33.0 11 65.1 11", 65, 0, 4, 64, 32, 0, 33, 2, 5, 32, 2, 33, 0, 11, 65, 1, 11);
        peep("65.1 11", 65, 0, 4, 64, 32, 0, 33, 2, 11, 65, 1, 11);
        peep("2.64 11 65.1 11", 65, 0, 4, 64, 5, 11, 65, 1, 11);
        peep("2.64 11 65.1 11", 65, 3, 4, 64, 11, 65, 1, 11);
        peep("65.1 11", 65, 0, 4, 64, 11, 65, 1, 11);
        // The else and the end that go are its own.
        peep("2.64 32.0 4.64 12.1 5 12.0 11 11 65.1 11", 65, 3, 4, 64, 32, 0, 4, 64, 12, 1, 5, 12, 0, 11, 5, 32, 0, 4, 64, 5, 11, 11, 65, 1, 11);
        peep("2.64 32.0 4.64 5 11 11 65.1 11", 65, 0, 4, 64, 32, 0, 4, 64, 12, 1, 5, 12, 0, 11, 5, 32, 0, 4, 64, 5, 11, 11, 65, 1, 11);
    }

    private static void dead() {
        PassTest.pass(2, "65.1 12.0 11", 65, 1, 12, 0, 11);
        PassTest.pass(2, "65.1 12.0 11", 65, 1, 12, 0, 1, 65, 2, 26, 11);
        PassTest.pass(2, "65.1 15 11", 65, 1, 15, 11);
        PassTest.pass(2, "0 11", 0, 11);
        PassTest.pass(2, "0 11", 0, 1, 11);
        PassTest.pass(2, "2.64 0 11 65.1 11", 2, 64, 0, 1, 11, 65, 1, 11);
        PassTest.pass(2, "32.0 4.127 65.1 15 5 65.2 15 11 11", 32, 0, 4, 127, 65, 1, 15, 1, 5, 65, 2, 15, 1, 11, 11);
        PassTest.pass(2, "3.64 12.0 11 65.1 11", 3, 64, 12, 0, 2, 64, 3, 64, 32, 0, 4, 64, 5, 11, 11, 11, 11, 65, 1, 11);
        PassTest.pass(2, "2.64 32.0 13.0 11 65.1 11", 2, 64, 32, 0, 13, 0, 11, 65, 1, 11);
    }

    private static void blocks() {
        PassTest.pass(3, "65.1 11", 2, 64, 3, 64, 2, 64, 11, 11, 11, 65, 1, 11);
        PassTest.pass(3, "2.64 12.0 11 65.1 11", 2, 64, 12, 0, 11, 65, 1, 11);
        PassTest.pass(3, "3.64 12.0 11 65.1 11", 3, 64, 12, 0, 11, 65, 1, 11);
        PassTest.pass(3, "2.64 12.0 11 65.1 11", 2, 64, 3, 64, 12, 1, 11, 11, 65, 1, 11);
        PassTest.pass(3, "3.64 12.0 11 65.1 11", 2, 64, 3, 64, 12, 0, 11, 11, 65, 1, 11);
        PassTest.pass(3, "32.0 4.64 12.0 11 65.1 11", 32, 0, 4, 64, 2, 64, 12, 1, 11, 11, 65, 1, 11);
        // To the function: 1 less by each block that goes.
        PassTest.pass(3, "65.1 12.0 65.2 11", 2, 127, 3, 64, 2, 64, 65, 1, 12, 3, 11, 11, 65, 2, 11, 11);
        // The last place of a br_table counts, too.
        PassTest.pass(3, "2.64 32.0 14.0,0,0 11 65.1 11", 2, 64, 2, 64, 32, 0, 14, 2, 1, 1, 1, 11, 11, 65, 1, 11);
        PassTest.pass(3, "2.64 2.64 32.0 14.1,1,0 11 11 65.1 11", 2, 64, 2, 64, 32, 0, 14, 2, 1, 1, 0, 11, 11, 65, 1, 11);
        PassTest.pass(3, "2.64 2.64 32.0 14.0,1 11 11 65.1 11", 2, 64, 2, 64, 32, 0, 14, 1, 0, 1, 11, 11, 65, 1, 11);
        PassTest.pass(3, "2.64 32.0 14.0 11 65.1 11", 2, 64, 32, 0, 14, 0, 0, 11, 65, 1, 11);
        // An if is not a block: it stays, but for the else.
        PassTest.pass(3, "32.0 4.64 1 11 65.1 11", 32, 0, 4, 64, 1, 11, 65, 1, 11);
        PassTest.pass(3, "32.0 4.64 1 11 65.1 11", 32, 0, 4, 64, 1, 5, 2, 64, 11, 11, 65, 1, 11);
        PassTest.pass(3, "32.0 4.127 65.1 5 65.2 11 11", 32, 0, 4, 127, 65, 1, 5, 65, 2, 11, 11);
        PassTest.pass(3, "32.0 26 65.1 11", 32, 0, 4, 64, 3, 64, 11, 11, 65, 1, 11);
    }

    private static void jumps() {
        // Behind the end stands br m, nothing else, and it takes no value there.
        PassTest.pass(4, "3.64 2.64 12.1 11 12.0 11 65.1 11", 3, 64, 2, 64, 12, 0, 11, 12, 0, 11, 65, 1, 11);
        PassTest.pass(4, "3.64 2.64 32.0 13.1 11 12.0 11 65.1 11", 3, 64, 2, 64, 32, 0, 13, 0, 11, 12, 0, 11, 65, 1, 11);
        PassTest.pass(4, "3.64 2.64 12.0 11 32.0 13.0 11 65.1 11", 3, 64, 2, 64, 12, 0, 11, 32, 0, 13, 0, 11, 65, 1, 11);
        PassTest.pass(4, "3.64 2.64 12.0 11 1 12.0 11 65.1 11", 3, 64, 2, 64, 12, 0, 11, 1, 12, 0, 11, 65, 1, 11);
        PassTest.pass(4, "3.127 2.64 12.1 11 12.0 11 11", 3, 127, 2, 64, 12, 0, 11, 12, 0, 11, 11);
        PassTest.pass(4, "2.127 65.1 2.64 12.0 11 12.0 11 11", 2, 127, 65, 1, 2, 64, 12, 0, 11, 12, 0, 11, 11);
        PassTest.pass(4, "2.64 32.0 4.64 12.1 11 12.0 11 65.1 11", 2, 64, 32, 0, 4, 64, 12, 0, 11, 12, 0, 11, 65, 1, 11);
        PassTest.pass(4, "2.64 2.64 2.64 12.2 11 12.1 11 12.0 11 65.1 11", 2, 64, 2, 64, 2, 64, 12, 0, 11, 12, 0, 11, 12, 0, 11, 65, 1, 11);
        PassTest.pass(4, "3.64 2.64 2.64 32.0 13.2 12.2 11 12.1 11 12.0 11 65.1 11",
            3, 64, 2, 64, 2, 64, 32, 0, 13, 0, 12, 1, 11, 12, 0, 11, 12, 0, 11, 65, 1, 11);
        // To the function, without a value.
        Codekiln x = new Codekiln();
        Case.setBytes(x, Case.module(new int[] {1, 1, 96, 0, 0}, new int[] {3, 1, 0}, Case.codeSection(2, 64, 2, 64, 12, 0, 11, 12, 1, 11, 11)));
        Case.is("read", x.read(), 0);
        x.pass(0, 4);
        Case.is("code", Case.code(x, 1, 0), "2.64 2.64 12.2 11 12.1 11 11");
    }

    private static void stores() {
        PassTest.pass(5, "65.1 26 32.0 11", 65, 1, 33, 2, 32, 0, 11);
        PassTest.pass(5, "65.1 11", 65, 1, 34, 0, 11);
        PassTest.pass(5, "65.1 34.0 32.0 106 11", 65, 1, 34, 0, 32, 0, 106, 11);
        // LIVE round a loop, and not LIVE round one in which it is set first.
        PassTest.pass(5, "65.1 33.2 3.64 32.2 26 32.0 13.0 11 65.1 11", 65, 1, 33, 2, 3, 64, 32, 2, 26, 32, 0, 13, 0, 11, 65, 1, 11);
        PassTest.pass(5, "65.1 26 3.64 65.2 33.2 32.2 26 32.0 13.0 11 65.1 11",
            65, 1, 33, 2, 3, 64, 65, 2, 33, 2, 32, 2, 26, 32, 0, 13, 0, 11, 65, 1, 11);
        PassTest.pass(5, "3.64 32.2 26 65.1 33.2 32.0 13.0 11 65.1 11", 3, 64, 32, 2, 26, 65, 1, 33, 2, 32, 0, 13, 0, 11, 65, 1, 11);
        PassTest.pass(5, "3.64 32.2 26 65.1 26 11 65.1 11", 3, 64, 32, 2, 26, 65, 1, 33, 2, 11, 65, 1, 11);
        // Whatever the test: by br_if, br_table and if each of their ways counts.
        PassTest.pass(5, "65.1 33.2 2.64 65.0 13.0 65.5 15 11 32.2 11", 65, 1, 33, 2, 2, 64, 65, 0, 13, 0, 65, 5, 15, 11, 32, 2, 11);
        PassTest.pass(5, "65.1 33.2 2.64 2.64 65.0 14.0,1 11 65.5 15 11 32.2 11",
            65, 1, 33, 2, 2, 64, 2, 64, 65, 0, 14, 1, 0, 1, 11, 65, 5, 15, 11, 32, 2, 11);
        PassTest.pass(5, "65.1 33.2 65.1 4.64 65.5 15 11 32.2 11", 65, 1, 33, 2, 65, 1, 4, 64, 65, 5, 15, 11, 32, 2, 11);
        PassTest.pass(5, "65.1 26 0 32.2 11", 65, 1, 33, 2, 0, 32, 2, 11);
        PassTest.pass(5, "65.1 26 65.3 12.0 32.2 11", 65, 1, 33, 2, 65, 3, 12, 0, 32, 2, 11);
        PassTest.pass(5, "65.1 26 65.1 26 65.2 33.2 32.2 11", 65, 1, 33, 2, 65, 1, 33, 2, 65, 2, 33, 2, 32, 2, 11);
    }

    private static void shares() {
        // A local that is only set is there still; one that nothing names is not.
        PassTest.pass(6, "65.1 33.0 65.1 11", 65, 1, 33, 2, 65, 1, 11);
        Codekiln x = PassTest.read(65, 1, 33, 3, 65, 1, 11);
        x.pass(0, 6);
        Case.is("no locals beyond parameters", x.functionAt(1, 0, 2), 0);
        Codekiln y = PassTest.read(32, 2, 32, 3, 106, 32, 0, 106, 11);
        y.pass(0, 6);
        Case.is("both are LIVE as it begins", y.functionAt(1, 0, 2), 2);
        Codekiln z = PassTest.read(32, 2, 26, 32, 3, 11);
        z.pass(0, 6);
        Case.is("both, and neither goes with a parameter", z.functionAt(1, 0, 2), 2);
        Case.is("code", Case.code(z, 1, 0), "32.2 26 32.3 11");
        // One is LIVE behind what sets the other one, though that is got no more.
        PassTest.pass(6, "65.1 33.0 65.2 33.2 32.0 11", 65, 1, 33, 2, 65, 2, 33, 3, 32, 2, 11);
        // With the first one ahead that it does not CONFLICT with, and with all that came together with that.
        PassTest.pass(6, "65.1 33.0 32.0 26 65.2 33.2 65.3 33.0 32.2 32.0 106 11",
            65, 1, 33, 2, 32, 2, 26, 65, 2, 33, 3, 65, 3, 33, 2, 32, 3, 32, 2, 106, 11);
    }

    /** Behind a br nothing goes on: there no instruction is one behind which two are LIVE, but for what stands there. */
    private static void sharesInDeadCode() {
        PassTest.pass(6, "0 32.0 26 32.0 26 65.1 11", 0, 32, 2, 26, 32, 3, 26, 65, 1, 11);
        PassTest.pass(6, "0 32.0 32.0 106 26 65.1 11", 0, 32, 2, 32, 3, 106, 26, 65, 1, 11);
        PassTest.pass(6, "0 1 32.0 26 32.2 26 65.1 11", 0, 1, 32, 2, 26, 32, 3, 26, 65, 1, 11);
        PassTest.pass(6, "0 65.1 33.0 65.2 33.2 32.0 32.2 106 11", 0, 65, 1, 33, 2, 65, 2, 33, 3, 32, 2, 32, 3, 106, 11);
        PassTest.pass(6, "65.1 15 32.0 26 32.0 11", 65, 1, 15, 32, 2, 26, 32, 3, 11);
    }

    /** passes() takes the bits 0 to 127, by numbers. */
    private static void bits() {
        Codekiln x = Case.made("int g(int a){return a*4+0;}int f(int a){int b=g(a);if(1){b=b+g(2);}return b;}");
        for (int bits = 0; bits < 128; bits++) {
            int first = x.passes(0, bits);
            int last = 0;
            for (int k = 0; k < 7; k++) {
                if ((bits >> k & 1) == 1) {
                    last = x.pass(last, k);
                }
            }
            Case.is("passes by " + bits, x.same(first, last), true);
            Case.is("of a program", x.moduleIs(first, 9), 1);
            x = Case.made("int g(int a){return a*4+0;}int f(int a){int b=g(a);if(1){b=b+g(2);}return b;}");
        }
    }

    /** A module of functions of nothing and nothing, but the first, of so many i32; each a row of its locals and instructions. */
    private static Codekiln functions(int parameters, int[]... bodies) {
        int[] codes = {bodies.length};
        for (int[] body : bodies) {
            codes = row(codes, body.length & 127 | 128, body.length >> 7, body);
        }
        int[] whole = row(0, 97, 115, 109, 1, 0, 0, 0, 1, 7 + parameters, 2, 96, parameters, times(parameters, 127), 0, 96, 0, 0, 3, bodies.length + 1,
            bodies.length, 0, times(bodies.length - 1, 1), 7, 5, 1, 1, 102, 0, 1, 10, codes.length & 127 | 128, codes.length >> 7, codes);
        byte[] all = new byte[whole.length];
        for (int k = 0; k < all.length; k++) {
            all[k] = (byte) whole[k];
        }
        Codekiln x = new Codekiln();
        Case.addAll(x, all);
        Case.is("read, " + x.fault(true) + " at " + x.fault(false), x.read(), 0);
        return x;
    }

    /** The first function takes leaves, too, those that stand behind it. */
    private static void leavesBehindTheirCallers() {
        Codekiln x = functions(0, row(0, 16, 1, 16, 2, 11), row(0, 1, 11), row(0, 16, 1, 1, 1, 11));
        x.pass(0, 0);
        Case.is("the first one", Case.code(x, 1, 0), "2.64 1 11 2.64 2.64 1 11 1 1 11 11");
        Case.is("the leaf", Case.code(x, 1, 1), "1 11");
        Case.is("the last one", Case.code(x, 1, 2), "2.64 1 11 1 1 11");
        Codekiln y = functions(0, row(0, 16, 1, 11), row(0, 16, 0, 11), row(0, 16, 2, 11));
        y.pass(0, 0);
        Case.is("round about", Case.code(y, 1, 0), "16.1 11");
        Case.is("round about", Case.code(y, 1, 1), "16.0 11");
        Case.is("itself", Case.code(y, 1, 2), "16.2 11");
    }

    /** Open are those that are open at the place: what is closed ahead of a call does not count, in either function. */
    private static void closedBlocksDoNotCount() {
        int[][] closed = {row(2, 64, 11), row(3, 64, 11), row(65, 0, 4, 64, 11), row(65, 0, 4, 64, 5, 11), row(2, 64, 2, 64, 11, 3, 64, 11, 11)};
        for (int[] one : closed) {
            Codekiln x = functions(0, row(0, 1, 11), row(0, times(230, one), 16, 0, 11));
            Case.is("calls left behind 230 closed ones", callsLeft(x), 0);
            for (int deep = 198; deep < 202; deep++) {
                Codekiln y = functions(0, row(0, 1, 11), row(0, times(40, one), times(deep, 2, 64), 16, 0, times(deep, 11), times(40, one), 11));
                Case.is("calls left behind 40 closed ones, within " + deep, callsLeft(y), deep < 200 ? 0 : 1);
                Codekiln z = functions(0, row(0, 1, 11), row(0, times(40, one), times(deep, 3, 64), 1, times(deep, 11), times(40, one), 16, 0, 11));
                Case.is("calls left behind some that are closed, too, " + deep, callsLeft(z), deep < 201 ? 0 : 1);
            }
        }
        // In the leaf: two, each with one in it, beside one another are 2 deep.
        int[] leaf = row(0, 2, 64, 2, 64, 11, 11, 3, 64, 65, 0, 4, 64, 11, 11, 11);
        for (int deep = 196; deep < 200; deep++) {
            Codekiln x = functions(0, leaf, row(0, times(deep, 2, 64), 16, 0, times(deep, 11), 11));
            Case.is("calls left of a leaf of 2, within " + deep, callsLeft(x), deep < 198 ? 0 : 1);
        }
    }

    /** Behind it at most 1500 instructions: a set for each parameter, two for each other local, a block and its end. */
    private static void parametersAndLocalsCount() {
        for (int parameters = 0; parameters < 4; parameters++) {
            for (int locals = 0; locals < 7; locals += 3) {
                for (int more = -1; more < 2; more++) {
                    int leaf = 2;
                    int nops = 1500 - (parameters + 2 + leaf + parameters + 2 * locals) + more;
                    Codekiln x = functions(parameters, row(locals > 0 ? row(1, locals, 126) : row(0), 1, 11), row(0, times(parameters, 65, 5), 16, 0, times(nops, 1), 11));
                    String what = parameters + " parameters and " + locals + " locals: " + (1500 + more);
                    Case.is(what, callsLeft(x), more <= 0 ? 0 : 1);
                    Case.is(what, x.functionAt(1, 1, 3), more <= 0 ? 1500 + more : parameters + nops + 2);
                    Case.is(what, x.functionAt(1, 1, 2), more <= 0 ? parameters + locals : 0);
                }
            }
        }
    }

    /** What fits only since something behind it went: up to two instructions ahead. */
    private static void onesAheadFitAgain() {
        int[][] between = {row(1), row(1, 1), row(172, 167), row(65, 7, 26), row(32, 0, 26), row(35, 0, 26), row(63, 0, 26), row(32, 0, 33, 0), row(65, 0, 106)};
        for (int k = 0; k < between.length; k++) {
            int[] gap = between[k];
            // What works on the word ahead of it, and so cannot stand behind a const without changing it.
            boolean isWord = k == 2 || k == 8;
            peep("32.0 4.64 11 65.1 11", 32, 0, 65, 0, 71, gap, 4, 64, 11, 65, 1, 11);
            peep("2.64 32.0 13.0 11 65.1 11", 2, 64, 32, 0, 65, 0, 71, gap, 13, 0, 11, 65, 1, 11);
            peep("32.0 69 11", 32, 0, 65, 0, 71, gap, 69, 11);
            peep("32.0 4.64 11 65.1 11", 32, 0, 69, 69, gap, 4, 64, 11, 65, 1, 11);
            peep("32.0 32.0 72 11", 32, 0, 32, 0, 72, gap, 65, 0, 71, 11);
            peep("32.0 32.0 78 11", 32, 0, 32, 0, 72, gap, 69, 11);
            if (!isWord) {
                peep("32.0 32.0 72 11", 32, 0, 32, 0, 72, 65, 0, gap, 71, 11);
                peep("65.12 11", 65, 7, gap, 65, 5, 106, 11);
                peep("65.12 11", 65, 7, 65, 5, gap, 106, 11);
                peep("32.0 11", 32, 0, 65, 0, gap, 106, 11);
                peep("32.0 69 11", 32, 0, 65, 0, gap, 70, 11);
                peep("32.0 65.3 116 11", 32, 0, 65, 8, gap, 108, 11);
                peep("2.64 12.0 11 65.1 11", 2, 64, 65, 1, gap, 13, 0, 11, 65, 1, 11);
                peep("32.0 45.0 11", 32, 0, 45, 0, 0, 65, 255, 1, gap, 113, 11);
            }
            peep("65.1 11", 32, 0, gap, 26, 65, 1, 11);
            peep("32.0 45.0 11", 32, 0, 45, 0, 0, gap, 65, 255, 1, 113, 11);
            peep("32.0 32.0 58.0 65.1 11", 32, 0, 32, 0, 65, 255, 1, 113, gap, 58, 0, 0, 65, 1, 11);
            peep("32.0 11", 32, 0, gap, 33, 0, 32, 0, 11);
            peep("32.0 65.3 34.0 106 11", 32, 0, 65, 3, gap, 33, 0, k == 7 ? row() : row(1), 32, 0, 106, 11);
        }
        // Far ahead: each one that goes lets one more fit.
        peep("65.1 11", times(40, 32, 0), times(40, 26), 65, 1, 11);
        peep("65.40 11", 65, 0, times(40, 65, 1), times(40, 106), 11);
    }

    /** A const and an if, wherever it stands: what is behind it stays. */
    private static void ifsFurtherBehind() {
        int[] ahead = row(65, 1, 33, 0, 65, 2, 33, 2);
        String told = "65.1 33.0 65.2 33.2 ";
        peep(told + "65.1 11", ahead, 65, 0, 4, 64, 11, 65, 1, 11);
        peep(told + "65.1 11", ahead, 65, 0, 4, 64, 65, 9, 33, 2, 11, 65, 1, 11);
        peep(told + "65.7 33.2 65.1 11", ahead, 65, 0, 4, 64, 65, 9, 33, 2, 11, 65, 7, 33, 2, 65, 1, 11);
        peep(told + "2.64 65.9 33.2 11 65.1 11", ahead, 65, 3, 4, 64, 65, 9, 33, 2, 11, 65, 1, 11);
        peep(told + "2.64 65.9 33.2 11 65.1 11", ahead, 65, 3, 4, 64, 65, 9, 33, 2, 5, 65, 8, 33, 2, 11, 65, 1, 11);
        peep(told + "2.64 65.8 33.2 11 65.1 11", ahead, 65, 0, 4, 64, 65, 9, 33, 2, 5, 65, 8, 33, 2, 11, 65, 1, 11);
        peep(told + "2.127 65.8 11 11", ahead, 65, 0, 4, 127, 65, 9, 5, 65, 8, 11, 11);
        peep(told + "2.127 65.9 11 11", ahead, 65, 128, 127, 4, 127, 65, 9, 5, 65, 8, 11, 11);
        peep(told + "2.64 65.5 33.2 11 65.1 11", ahead, 65, 1, 4, 64, 65, 0, 4, 64, 65, 4, 33, 2, 11, 65, 5, 33, 2, 11, 65, 1, 11);
        // Two of them, one in the other, and one behind the other.
        peep(told + "2.64 2.64 65.4 33.2 11 11 65.1 11", ahead, 65, 1, 4, 64, 65, 1, 4, 64, 65, 4, 33, 2, 11, 11, 65, 1, 11);
        peep(told + "65.1 11", ahead, 65, 0, 4, 64, 65, 4, 33, 2, 11, 65, 0, 4, 64, 65, 4, 33, 2, 11, 65, 1, 11);
        // The const may come of what is ahead of it.
        peep(told + "65.1 11", ahead, 65, 3, 65, 3, 107, 4, 64, 65, 4, 33, 2, 11, 65, 1, 11);
        peep(told + "2.64 65.4 33.2 11 65.1 11", ahead, 65, 0, 69, 4, 64, 65, 4, 33, 2, 11, 65, 1, 11);
    }

    /** What is an empty one only since something in it went. */
    private static void blocksFitAgain() {
        int[][] empty = {row(2, 64, 11), row(3, 64, 11), row(2, 64, 3, 64, 11, 11), row(2, 64, 11, 3, 64, 11, 2, 64, 11)};
        for (int[] one : empty) {
            PassTest.pass(3, "32.0 26 65.1 11", row(32, 0, 4, 64, one, 11, 65, 1, 11));
            PassTest.pass(3, "32.0 26 65.1 11", row(32, 0, 4, 64, 5, one, 11, 65, 1, 11));
            PassTest.pass(3, "32.0 26 65.1 11", row(32, 0, 4, 64, one, 5, 11, 65, 1, 11));
            PassTest.pass(3, "32.0 26 65.1 11", row(32, 0, 4, 64, one, 5, one, 11, 65, 1, 11));
            PassTest.pass(3, "32.0 4.64 1 11 65.1 11", row(32, 0, 4, 64, 1, 5, one, 11, 65, 1, 11));
            PassTest.pass(3, "32.0 4.64 5 1 11 65.1 11", row(32, 0, 4, 64, one, 5, 1, 11, 65, 1, 11));
            PassTest.pass(3, "65.1 11", row(2, 64, one, one, 11, one, 65, 1, one, 11));
            PassTest.pass(3, "2.64 1 12.0 11 65.1 11", row(2, 64, one, 1, one, 12, 0, one, 11, 65, 1, 11));
        }
        PassTest.pass(3, "32.0 26 32.0 26 65.1 11", 32, 0, 4, 64, 11, 32, 0, 4, 64, 5, 11, 65, 1, 11);
    }

    /** What goes beyond a block that goes is 1 less, also behind inner ones that stay. */
    private static void placesBeyondInnerBlocks() {
        PassTest.pass(3, "2.64 2.64 32.0 13.0 11 32.0 13.0 11 65.1 11", 2, 64, 2, 64, 2, 64, 32, 0, 13, 0, 11, 32, 0, 13, 1, 11, 11, 65, 1, 11);
        PassTest.pass(3, "2.64 3.64 32.0 13.0 11 32.0 14.0,0 11 65.1 11", 2, 64, 2, 64, 3, 64, 32, 0, 13, 0, 11, 32, 0, 14, 1, 1, 1, 11, 11, 65, 1, 11);
        PassTest.pass(3, "2.64 32.0 4.64 12.1 11 32.0 4.64 12.0 5 12.1 11 32.0 13.0 11 65.1 11",
            2, 64, 2, 64, 32, 0, 4, 64, 12, 2, 11, 32, 0, 4, 64, 12, 0, 5, 12, 2, 11, 32, 0, 13, 1, 11, 11, 65, 1, 11);
        PassTest.pass(3, "2.64 2.64 32.0 14.0,1,1 11 32.0 13.0 11 65.1 11", 2, 64, 3, 64, 2, 64, 32, 0, 14, 2, 0, 2, 2, 11, 32, 0, 13, 1, 11, 11, 65, 1, 11);
        PassTest.pass(3, "65.1 2.64 32.0 13.0 11 12.0 11", 2, 127, 65, 1, 2, 64, 32, 0, 13, 0, 11, 12, 1, 11, 11);
    }

    private static int[] group(int number) {
        return number < 128 ? row(number) : row(number & 127 | 128, number >> 7);
    }

    /** A function of nothing, with so many locals, that sets each and then gets each by a step. */
    private static Codekiln settingAll(int locals, int step, boolean isAtOnce) {
        int[] code = row(1, group(locals), 127);
        for (int k = 0; k < locals; k++) {
            code = row(code, 65, k & 63, 33, group(k), isAtOnce || k % step != 0 ? row() : row(32, group(k), 26));
        }
        for (int k = 0; k < locals && isAtOnce; k += step) {
            code = row(code, 32, group(k), 26);
        }
        return functions(0, row(code, 11), row(0, 11));
    }

    /** STORES and SHARE tell each of up to 250 locals by itself. */
    private static void manyLocals() {
        for (int locals : row(1, 2, 31, 32, 33, 62, 63, 64, 65, 66, 127, 128, 129, 191, 192, 193, 249, 250)) {
            for (int step = 1; step < 4; step++) {
                Codekiln x = settingAll(locals, step, true);
                int got = (locals + step - 1) / step;
                x.pass(0, 5);
                Case.is("sets left of " + locals, x.countOf(1, 33), got);
                Case.is("drops", x.countOf(1, 26), locals);
                for (int k = 0; k < locals; k++) {
                    Case.is("local " + k, x.opAt(1, 0, 2 * k + 1, 0), k % step == 0 ? 33 : 26);
                }
                x.pass(1, 6);
                Case.is("locals that are LIVE at once", x.functionAt(2, 0, 2), got);
                for (int k = 0; k < locals; k += step) {
                    Case.is("the local " + k + " anew", x.opAt(2, 0, 2 * k + 1, 1), k / step);
                }
                x.pass(0, 6);
                Case.is("with those that are only set: with the first one that is not LIVE then", x.functionAt(3, 0, 2) >= got, true);
                Case.is("alike", x.alike(0, 0, 96, 0, 0, 0), 1);
                Codekiln y = settingAll(locals, step, false);
                y.pass(0, 6);
                Case.is("locals one behind the other", y.functionAt(1, 0, 2), 1);
                y.pass(0, 5);
                Case.is("sets left", y.countOf(2, 33), got);
            }
        }
    }

    /** By the first instruction of an if, of its else, and behind its end. */
    private static void liveInBranches() {
        PassTest.pass(5, "65.1 33.2 32.0 4.64 32.2 26 11 65.1 11", 65, 1, 33, 2, 32, 0, 4, 64, 32, 2, 26, 11, 65, 1, 11);
        PassTest.pass(5, "65.1 33.2 32.0 4.64 1 32.2 26 11 65.1 11", 65, 1, 33, 2, 32, 0, 4, 64, 1, 32, 2, 26, 11, 65, 1, 11);
        PassTest.pass(5, "65.1 33.2 32.0 4.64 5 32.2 26 11 65.1 11", 65, 1, 33, 2, 32, 0, 4, 64, 5, 32, 2, 26, 11, 65, 1, 11);
        PassTest.pass(5, "65.1 33.2 32.0 4.64 1 5 1 32.2 26 11 65.1 11", 65, 1, 33, 2, 32, 0, 4, 64, 1, 5, 1, 32, 2, 26, 11, 65, 1, 11);
        PassTest.pass(5, "65.1 33.2 32.0 4.64 65.5 33.2 11 32.2 11", 65, 1, 33, 2, 32, 0, 4, 64, 65, 5, 33, 2, 11, 32, 2, 11);
        PassTest.pass(5, "65.1 26 32.0 4.64 65.5 33.2 5 65.6 33.2 11 32.2 11", 65, 1, 33, 2, 32, 0, 4, 64, 65, 5, 33, 2, 5, 65, 6, 33, 2, 11, 32, 2, 11);
        PassTest.pass(5, "65.1 33.2 32.0 4.64 5 65.6 33.2 11 32.2 11", 65, 1, 33, 2, 32, 0, 4, 64, 5, 65, 6, 33, 2, 11, 32, 2, 11);
        PassTest.pass(5, "65.1 33.2 32.0 4.64 65.5 33.2 5 11 32.2 11", 65, 1, 33, 2, 32, 0, 4, 64, 65, 5, 33, 2, 5, 11, 32, 2, 11);
        PassTest.pass(5, "65.1 26 32.0 4.64 65.5 33.2 32.2 26 11 65.1 11", 65, 1, 33, 2, 32, 0, 4, 64, 65, 5, 33, 2, 32, 2, 26, 11, 65, 1, 11);
        // Behind the then, the else is jumped over.
        PassTest.pass(5, "32.0 4.64 65.1 26 5 32.2 26 11 65.1 11", 32, 0, 4, 64, 65, 1, 33, 2, 5, 32, 2, 26, 11, 65, 1, 11);
        PassTest.pass(5, "32.0 4.64 65.1 33.2 5 65.2 33.2 11 32.2 11", 32, 0, 4, 64, 65, 1, 33, 2, 5, 65, 2, 33, 2, 11, 32, 2, 11);
        // By br_if on from there, and to the end of its block, or the beginning of its loop.
        PassTest.pass(5, "65.1 33.2 2.64 32.0 13.0 32.2 26 11 65.1 11", 65, 1, 33, 2, 2, 64, 32, 0, 13, 0, 32, 2, 26, 11, 65, 1, 11);
        PassTest.pass(5, "65.1 33.2 2.64 32.0 13.0 65.2 33.2 11 32.2 11", 65, 1, 33, 2, 2, 64, 32, 0, 13, 0, 65, 2, 33, 2, 11, 32, 2, 11);
        PassTest.pass(5, "3.64 32.2 26 65.3 33.2 32.0 13.0 65.2 33.2 11 32.2 11",
            3, 64, 32, 2, 26, 65, 3, 33, 2, 32, 0, 13, 0, 65, 2, 33, 2, 11, 32, 2, 11);
        PassTest.pass(5, "2.64 65.3 33.2 12.0 32.2 26 11 32.2 11", 2, 64, 65, 3, 33, 2, 12, 0, 32, 2, 26, 11, 32, 2, 11);
        PassTest.pass(5, "2.64 65.3 26 12.0 32.2 26 11 65.2 11", 2, 64, 65, 3, 33, 2, 12, 0, 32, 2, 26, 11, 65, 2, 11);
    }

    /** Leaves one behind the other: what comes of the first one moves the second one. */
    private static void inlinedByTwos() {
        Codekiln x = functions(2, row(1, 1, 126, 32, 0, 4, 64, 15, 11, 32, 1, 26, 11), row(1, 1, 127, 65, 1, 65, 2, 16, 0, 2, 64, 65, 3, 65, 4, 16, 0, 11, 32, 0, 26, 11));
        x.pass(0, 0);
        Case.is("code", Case.code(x, 1, 1), "65.1 65.2 33.2 33.1 66.0 33.3 2.64 32.1 4.64 12.1 11 32.2 26 11 "
            + "2.64 65.3 65.4 33.5 33.4 66.0 33.6 2.64 32.4 4.64 12.1 11 32.5 26 11 11 32.0 26 11");
        Case.is("locals", Case.locals(x, 1, 1), "[127, 127, 127, 126, 127, 127, 126]");
        Case.is("alike", x.alike(0, 0, 1, 0, 0, 0), 1);
        Case.is("steady", x.isSteady(0, 0), true);
        Case.is("errors", x.errors(), 0);
    }

    /** Places of br_tables that are alike change each for itself. */
    private static void rowsAlike() {
        PassTest.pass(3, "2.64 2.64 32.0 14.0,0 32.0 14.1,1 11 11 65.1 11",
            2, 64, 2, 64, 2, 64, 32, 0, 14, 1, 1, 1, 11, 32, 0, 14, 1, 1, 1, 11, 11, 65, 1, 11);
        PassTest.pass(3, "2.64 2.64 32.0 14.0,0 32.0 14.0,0 32.0 14.1,1 11 11 65.1 11",
            2, 64, 2, 64, 2, 64, 32, 0, 14, 1, 1, 1, 32, 0, 14, 1, 1, 1, 11, 32, 0, 14, 1, 1, 1, 11, 11, 65, 1, 11);
        PassTest.pass(3, "2.64 2.64 32.0 14.0,1,0 32.0 14.0,0 32.0 14.1,1 11 11 65.1 11",
            2, 64, 2, 64, 2, 64, 32, 0, 14, 2, 1, 2, 1, 32, 0, 14, 1, 1, 1, 11, 32, 0, 14, 1, 1, 1, 11, 11, 65, 1, 11);
        // Rows that are but a little alike: in how many places, in the last one, in one between.
        for (int which : row(1, 3, 4, 5, 6)) {
            PassTest.pass(which, "2.64 2.64 32.0 14.0,0 32.0 14.0 32.0 14.0,0,0 32.0 14.0,1 32.0 14.0,1,0 32.0 14.1,1 32.0 14.1 11 11 65.1 11",
                2, 64, 2, 64, 32, 0, 14, 1, 0, 0, 32, 0, 14, 0, 0, 32, 0, 14, 2, 0, 0, 0, 32, 0, 14, 1, 0, 1,
                32, 0, 14, 2, 0, 1, 0, 32, 0, 14, 1, 1, 1, 32, 0, 14, 0, 1, 11, 11, 65, 1, 11);
        }
        Codekiln x = new Codekiln();
        Case.setBytes(x, Case.module(new int[] {1, 1, 96, 0, 0}, new int[] {3, 2, 0, 0}, new int[] {7, 1, 1, 'f', 0, 1},
            new int[] {10, 2, 11, 0, 2, 64, 65, 0, 14, 1, 1, 1, 11, 11, 8, 0, 16, 0, 16, 0, 16, 0, 11}));
        Case.is("read at " + x.fault(false), x.read(), 0);
        x.pass(0, 0);
        x.pass(1, 3);
        x.passes(0, 9);
        String inlined = "2.64 2.64 65.0 14.1,1 11 11 ";
        String bare = "2.64 65.0 14.0,0 11 ";
        Case.is("inlined", Case.code(x, 1, 1), inlined + inlined + inlined + "11");
        Case.is("blocks gone", Case.code(x, 2, 1), bare + bare + bare + "11");
        Case.is("blocks gone at once", x.same(2, 3), true);
        Case.is("the first one stays", Case.code(x, 0, 0), "2.64 65.0 14.1,1 11 11");
        Case.is("errors", x.errors(), 0);
    }
}
