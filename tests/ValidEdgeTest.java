import java.util.Arrays;

/** The edges of section 8 (promise 18): what each instruction takes and puts, how far out, and what lies above a height. */
public final class ValidEdgeTest {
    private static final int I = 127;
    private static final int L = 126;
    /** Each instruction with what stands with it, what it takes (the top last), and what it puts. */
    private static final int[][][] OPS = operations();

    public static void main(String[] args) {
        eachInstruction();
        inDeadCode();
        numbersOfThings();
        withoutThings();
        blocksOut();
        branchValues();
        branchTables();
        heights();
        elses();
        ends();
        selects();
        whatIsDead();
        unknownOnes();
        placesOfFaults();
        deadOnesBesideOthers();
        muchOnTheStack();
        Case.end();
    }

    private static int[][] op(int[] bytes, int[] takes, int... puts) {
        return new int[][] {bytes, takes, puts};
    }

    private static int[] a(int... all) {
        return all;
    }

    private static int[][][] operations() {
        int[][][] all = new int[100][][];
        int many = 0;
        for (int k = 0; k < 10; k++) {
            all[many++] = op(a(70 + k), a(I, I), I);
            all[many++] = op(a(81 + k), a(L, L), I);
        }
        for (int k : a(106, 107, 108, 109, 111, 113, 114, 115, 116, 117, 118)) {
            all[many++] = op(a(k), a(I, I), I);
            all[many++] = op(a(k + 18), a(L, L), L);
        }
        int[][][] others = {op(a(69), a(I), I), op(a(80), a(L), I), op(a(167), a(L), I), op(a(172), a(I), L), op(a(1), a()),
            op(a(32, 0), a(), I), op(a(32, 1), a(), L), op(a(33, 0), a(I)), op(a(33, 1), a(L)), op(a(34, 0), a(I), I), op(a(34, 1), a(L), L),
            op(a(35, 0), a(), I), op(a(35, 1), a(), L), op(a(35, 2), a(), I), op(a(36, 0), a(I)), op(a(36, 1), a(L)),
            op(a(40, 2, 0), a(I), I), op(a(41, 3, 0), a(I), L), op(a(45, 0, 0), a(I), I), op(a(54, 2, 0), a(I, I)), op(a(55, 3, 0), a(I, L)),
            op(a(58, 0, 0), a(I, I)), op(a(63, 0), a(), I), op(a(64, 0), a(I), I), op(a(65, 5), a(), I), op(a(66, 5), a(), L),
            op(a(16, 0), a(I, L), L), op(a(16, 1), a()), op(a(17, 0, 0), a(I, L, I), L), op(a(17, 1, 0), a(I)), op(a(26), a(I)), op(a(26), a(L)),
            op(a(27), a(I, I, I), I), op(a(27), a(L, L, I), L), op(a(13, 0), a(I)), op(a(2, 64, 11), a()), op(a(3, L, 66, 0, 11), a(), L),
            op(a(4, 64, 11), a(I)), op(a(4, I, 65, 1, 5, 65, 2, 11), a(I), I)};
        for (int[][] other : others) {
            all[many++] = other;
        }
        return Arrays.copyOf(all, many);
    }

    private static int[] row(int[]... parts) {
        int many = 0;
        for (int[] part : parts) {
            many += part.length;
        }
        int[] all = new int[many];
        int at = 0;
        for (int[] part : parts) {
            System.arraycopy(part, 0, all, at, part.length);
            at += part.length;
        }
        return all;
    }

    /** Functions: 0 of i32 and i64 an i64, 1 of nothing nothing: the code; an own i32 and i64, three globals, a memory, a table. */
    private static String fault(int... code) {
        int[] codes = new int[14 + code.length];
        codes[0] = 10;
        codes[1] = 2;
        codes[2] = 4;
        codes[3] = 0;
        codes[4] = 32;
        codes[5] = 1;
        codes[6] = 11;
        codes[7] = code.length + 6 & 127 | 128;
        codes[8] = code.length + 6 >> 7;
        codes[9] = 2;
        codes[10] = 1;
        codes[11] = I;
        codes[12] = 1;
        codes[13] = L;
        System.arraycopy(code, 0, codes, 14, code.length);
        codes = Arrays.copyOf(codes, codes.length + 1);
        codes[codes.length - 1] = 11;
        return Case.readFault(Case.module(a(1, 2, 96, 2, I, L, 1, L, 96, 0, 0), a(3, 2, 0, 1), a(4, 1, 112, 0, 1), a(5, 1, 1, 1, 1),
            a(6, 3, I, 1, 65, 0, 11, L, 1, 66, 0, 11, I, 0, 65, 0, 11), codes));
    }

    private static void good(int... code) {
        Case.is("fault of " + Arrays.toString(code), fault(code), "none");
    }

    /** Wrong at an instruction of the function 1. */
    private static void bad(int at, int... code) {
        Case.is("fault of " + Arrays.toString(code), fault(code), "3 at " + (10000 + at));
    }

    private static int[] consts(int... sorts) {
        int[] all = new int[sorts.length * 2];
        for (int k = 0; k < sorts.length; k++) {
            all[2 * k] = sorts[k] == I ? 65 : 66;
        }
        return all;
    }

    private static int[] drops(int many) {
        int[] all = new int[many];
        Arrays.fill(all, 26);
        return all;
    }

    private static int other(int sort) {
        return sort == I ? L : I;
    }

    private static int instructionsIn(int[][] op) {
        return op[0][0] == 2 ? 2 : op[0][0] == 3 ? 3 : op[0][0] == 4 ? op[0].length == 3 ? 2 : 5 : 1;
    }

    private static void eachInstruction() {
        for (int[][] op : OPS) {
            int takes = op[1].length;
            int[] behind = drops(op[2].length);
            boolean isAny = op[0][0] == 26;
            good(row(consts(op[1]), op[0], behind));
            // Each of what it takes as another SORT, and one less.
            for (int k = 0; k < takes && !isAny; k++) {
                int[] sorts = op[1].clone();
                sorts[k] = other(sorts[k]);
                bad(takes, row(consts(sorts), op[0], behind));
            }
            if (takes > 0) {
                bad(takes - 1, row(consts(Arrays.copyOf(op[1], takes - 1)), op[0], behind));
                // What lies below the height is not to be taken.
                bad(takes + 1, row(consts(op[1]), a(2, 64), op[0], behind, a(11)));
            }
            // What it puts is of its SORT, and nothing more.
            int after = takes + instructionsIn(op);
            if (op[2].length == 1) {
                good(row(consts(op[1]), op[0], a(op[2][0] == I ? 69 : 80), a(26)));
                bad(after, row(consts(op[1]), op[0], a(op[2][0] == I ? 80 : 69), a(26)));
                bad(after, row(consts(op[1]), op[0]));
            }
            bad(after + op[2].length, row(consts(op[1]), op[0], behind, a(26)));
        }
    }

    private static void inDeadCode() {
        for (int[][] op : OPS) {
            int takes = op[1].length;
            int[] behind = drops(op[2].length);
            good(row(a(0), op[0], behind));
            good(row(a(0), op[0], behind, a(26)));
            for (int given = 1; given <= takes; given++) {
                int[] sorts = Arrays.copyOfRange(op[1], takes - given, takes);
                good(row(a(0), consts(sorts), op[0], behind));
                if (op[0][0] != 26 && !(op[0][0] == 27 && given == 2)) {
                    sorts[0] = other(sorts[0]);
                    bad(given + 1, row(a(0), consts(sorts), op[0], behind));
                }
            }
            boolean isKnown = op[2].length == 1 && op[0][0] != 27;
            if (isKnown) {
                bad(1 + instructionsIn(op), row(a(0), op[0], a(op[2][0] == I ? 80 : 69), a(26)));
            }
            if (op[2].length == 1) {
                bad(1 + instructionsIn(op), row(a(0), op[0]));
            }
        }
    }

    private static void numbersOfThings() {
        good(32, 1, 26);
        bad(0, 32, 2, 26);
        bad(1, 65, 0, 33, 2);
        bad(1, 65, 0, 34, 2);
        bad(0, 32, 255, 255, 255, 255, 15, 26);
        good(35, 2, 26);
        bad(0, 35, 3, 26);
        good(65, 0, 36, 0);
        bad(1, 65, 0, 36, 2);
        bad(1, 65, 0, 36, 3);
        good(16, 1);
        bad(0, 16, 2);
        bad(0, 16, 255, 255, 255, 255, 15);
        good(65, 0, 17, 1, 0);
        bad(1, 65, 0, 17, 2, 0);
        bad(1, 65, 0, 17, 255, 255, 255, 255, 15, 0);
        // In a DEAD block they must be there, too.
        bad(1, 0, 32, 2, 26);
        bad(1, 0, 33, 2);
        bad(1, 0, 35, 3, 26);
        bad(1, 0, 36, 2);
        bad(1, 0, 16, 2);
        bad(1, 0, 17, 2, 0);
        bad(1, 0, 12, 1);
        bad(1, 0, 13, 1);
        bad(1, 0, 14, 0, 1);
        // Parameters count, and imports.
        int[] types = a(1, 2, 96, 1, L, 0, 96, 0, 1, I);
        int[] get = a(2, 1, 1, 'h', 3, 'g', 'e', 't', 0, 1);
        Case.is("an import", Case.readFault(Case.module(types, get, a(3, 1, 0), Case.codeSection(16, 0, 26, 32, 0, 16, 1, 11))), "none");
        Case.is("no function", Case.readFault(Case.module(types, get, a(3, 1, 0), Case.codeSection(16, 2, 11))), "3 at 10000");
        Case.is("no local", Case.readFault(Case.module(types, get, a(3, 1, 0), Case.codeSection(32, 1, 26, 11))), "3 at 10000");
    }

    /** A memory for load, store, size, grow; a table for call_indirect; of no pages, or no entries, they are there. */
    private static void withoutThings() {
        int[][] memory = {a(40, 2, 0, 26), a(41, 3, 0, 26), a(45, 0, 0, 26), a(54, 2, 0), a(55, 3, 0), a(58, 0, 0), a(63, 0, 26), a(64, 0, 26)};
        int[] type = a(1, 1, 96, 0, 0);
        int[] one = a(3, 1, 0);
        for (int[] code : memory) {
            int[] codes = Case.codeSection(row(a(0), code, a(11)));
            Case.is("with a memory of none", Case.readFault(Case.module(type, one, a(5, 1, 1, 0, 0), codes)), "none");
            Case.is("without a memory", Case.readFault(Case.module(type, one, codes)), "3 at 1");
        }
        int[] codes = Case.codeSection(0, 17, 0, 0, 11);
        Case.is("with a table of none", Case.readFault(Case.module(type, one, a(4, 1, 112, 0, 0), codes)), "none");
        Case.is("without a table", Case.readFault(Case.module(type, one, codes)), "3 at 1");
        Case.is("without globals", Case.readFault(Case.module(type, one, Case.codeSection(35, 0, 26, 11))), "3 at 0");
        Case.is("without locals", Case.readFault(Case.module(type, one, Case.codeSection(32, 0, 26, 11))), "3 at 0");
    }

    private static void blocksOut() {
        good(12, 0);
        bad(0, 12, 1);
        good(65, 0, 13, 0);
        bad(1, 65, 0, 13, 1);
        good(65, 0, 14, 1, 0, 0);
        bad(1, 65, 0, 14, 1, 1, 0);
        bad(1, 65, 0, 14, 1, 0, 1);
        for (int op = 2; op < 5; op++) {
            int[] test = op == 4 ? a(65, 0, 4, 64) : a(op, 64);
            int ahead = op == 4 ? 2 : 1;
            good(row(test, a(12, 0, 11)));
            good(row(test, a(12, 1, 11)));
            bad(ahead, row(test, a(12, 2, 11)));
            good(row(test, a(65, 0, 13, 1, 11)));
            bad(ahead + 1, row(test, a(65, 0, 13, 2, 11)));
            good(row(test, a(65, 0, 14, 2, 0, 1, 1, 11)));
            bad(ahead + 1, row(test, a(65, 0, 14, 2, 0, 2, 1, 11)));
            bad(ahead + 1, row(test, a(11, 12, 1)));
        }
        good(65, 0, 4, 64, 12, 1, 5, 12, 1, 11);
        bad(3, 65, 0, 4, 64, 5, 12, 2, 11);
        bad(0, 12, 255, 255, 255, 255, 15);
    }

    /** br to a block that has a value, and is no loop, takes it; return takes that of the function. */
    private static void branchValues() {
        good(2, I, 65, 1, 12, 0, 11, 26);
        bad(2, 2, I, 66, 1, 12, 0, 11, 26);
        bad(1, 2, I, 12, 0, 11, 26);
        good(3, I, 12, 0, 11, 26);
        good(3, I, 65, 0, 13, 0, 65, 1, 11, 26);
        good(2, I, 65, 1, 65, 0, 13, 0, 11, 26);
        bad(3, 2, I, 66, 1, 65, 0, 13, 0, 11, 26);
        bad(2, 2, I, 65, 0, 13, 0, 11, 26);
        good(65, 0, 4, L, 66, 1, 12, 0, 5, 66, 2, 11, 26);
        bad(3, 65, 0, 4, L, 65, 1, 12, 0, 5, 66, 2, 11, 26);
        good(2, L, 2, I, 66, 5, 12, 1, 11, 26, 66, 6, 11, 26);
        good(2, L, 66, 1, 66, 2, 12, 0, 11, 26);
        good(15);
        good(65, 1, 15);
        int[] type = a(1, 1, 96, 0, 1, L);
        int[] one = a(3, 1, 0);
        Case.is("return", Case.readFault(Case.module(type, one, Case.codeSection(66, 0, 15, 11))), "none");
        Case.is("return of another SORT", Case.readFault(Case.module(type, one, Case.codeSection(65, 0, 15, 11))), "3 at 1");
        Case.is("return without", Case.readFault(Case.module(type, one, Case.codeSection(15, 11))), "3 at 0");
        Case.is("br to the function", Case.readFault(Case.module(type, one, Case.codeSection(66, 0, 12, 0, 11))), "none");
        Case.is("br of another SORT", Case.readFault(Case.module(type, one, Case.codeSection(65, 0, 12, 0, 11))), "3 at 1");
        Case.is("br_if to the function", Case.readFault(Case.module(type, one, Case.codeSection(66, 0, 65, 0, 13, 0, 11))), "none");
        Case.is("br_if of another SORT", Case.readFault(Case.module(type, one, Case.codeSection(65, 0, 65, 0, 13, 0, 11))), "3 at 2");
        Case.is("br_table to the function", Case.readFault(Case.module(type, one, Case.codeSection(66, 0, 65, 0, 14, 1, 0, 0, 11))), "none");
    }

    /** All its places must take a value of the same SORT, or none. */
    private static void branchTables() {
        good(2, I, 2, I, 65, 1, 65, 0, 14, 1, 0, 1, 11, 11, 26);
        bad(4, 2, L, 2, I, 65, 1, 65, 0, 14, 1, 0, 1, 11, 26, 66, 0, 11, 26);
        bad(4, 2, 64, 2, I, 65, 1, 65, 0, 14, 1, 0, 1, 11, 26, 11);
        bad(4, 2, I, 2, 64, 65, 1, 65, 0, 14, 1, 0, 1, 11, 65, 0, 11, 26);
        bad(4, 2, I, 2, 64, 65, 1, 65, 0, 14, 1, 1, 0, 11, 65, 0, 11, 26);
        // A loop takes none.
        good(3, I, 2, 64, 65, 0, 14, 1, 0, 1, 11, 65, 0, 11, 26);
        bad(3, 3, I, 2, I, 65, 0, 14, 1, 0, 1, 11, 11, 26);
        good(2, 64, 3, L, 65, 0, 14, 2, 0, 1, 2, 11, 26, 11);
        bad(1, 2, 64, 14, 0, 0, 11);
        bad(2, 2, 64, 66, 0, 14, 0, 0, 11);
        bad(2, 2, I, 65, 0, 14, 0, 0, 11, 26);
        bad(3, 2, I, 66, 1, 65, 0, 14, 0, 0, 11, 26);
        // In a DEAD block, too.
        bad(3, 2, I, 2, L, 0, 14, 1, 0, 1, 11, 26, 65, 0, 11, 26);
        good(2, I, 2, I, 0, 14, 1, 0, 1, 11, 11, 26);
    }

    /** Above the height of a block lies what was put in it alone. */
    private static void heights() {
        good(65, 1, 2, 64, 11, 26);
        bad(2, 65, 1, 2, 64, 26, 11);
        good(65, 1, 2, 64, 65, 2, 26, 11, 26);
        bad(2, 65, 1, 3, 64, 26, 11);
        bad(3, 65, 1, 65, 2, 4, 64, 26, 11);
        bad(4, 65, 1, 65, 2, 4, 64, 5, 26, 11);
        good(65, 1, 2, I, 65, 2, 11, 106, 26);
        bad(2, 65, 1, 2, I, 69, 11, 26, 26);
    }

    private static void elses() {
        bad(0, 5);
        bad(1, 2, 64, 5, 11);
        bad(1, 3, 64, 5, 11);
        good(65, 0, 4, 64, 5, 11);
        bad(3, 65, 0, 4, 64, 5, 5, 11);
        bad(3, 65, 0, 4, 64, 2, 64, 5, 11, 11);
        good(65, 0, 4, I, 65, 1, 5, 65, 2, 11, 26);
        bad(2, 65, 0, 4, I, 5, 65, 2, 11, 26);
        bad(3, 65, 0, 4, I, 66, 1, 5, 65, 2, 11, 26);
        bad(4, 65, 0, 4, I, 65, 1, 65, 1, 5, 65, 2, 11, 26);
        bad(3, 65, 0, 4, 64, 65, 1, 5, 11);
        // If DEAD the value may lack; behind the else it is not DEAD.
        good(65, 0, 4, I, 0, 5, 65, 2, 11, 26);
        good(65, 0, 4, I, 0, 65, 1, 5, 65, 2, 11, 26);
        bad(5, 65, 0, 4, I, 0, 65, 1, 65, 1, 5, 65, 2, 11, 26);
        bad(4, 65, 0, 4, I, 0, 66, 1, 5, 65, 2, 11, 26);
        bad(4, 65, 0, 4, I, 0, 5, 11, 26);
        bad(4, 65, 0, 4, 64, 0, 5, 26, 11);
        good(65, 0, 4, 64, 0, 5, 0, 26, 11);
    }

    private static void ends() {
        good(2, I, 65, 0, 11, 26);
        bad(1, 2, I, 11, 26);
        bad(2, 2, I, 66, 0, 11, 26);
        bad(3, 2, I, 65, 0, 65, 0, 11, 26);
        bad(2, 2, 64, 65, 0, 11);
        good(2, I, 0, 11, 26);
        good(2, I, 0, 65, 0, 11, 26);
        bad(3, 2, I, 0, 66, 0, 11, 26);
        bad(4, 2, I, 0, 65, 0, 65, 0, 11, 26);
        bad(3, 2, 64, 0, 65, 0, 11);
        // An if with a value has an else.
        bad(3, 65, 0, 4, I, 65, 0, 11, 26);
        bad(3, 65, 0, 4, I, 0, 11, 26);
        good(65, 0, 4, 64, 11);
        good(65, 0, 4, 64, 0, 11);
        // The function.
        bad(1, 65, 0);
        good(0);
        bad(2, 0, 65, 0);
        // Behind an end the block is gone: what was DEAD is so no more, and the value is of its SORT.
        bad(3, 2, 64, 0, 11, 26);
        bad(3, 2, I, 0, 11, 80, 26);
        good(2, I, 0, 11, 69, 26);
    }

    private static void selects() {
        good(65, 0, 65, 1, 65, 2, 27, 69, 26);
        good(66, 0, 66, 1, 65, 2, 27, 80, 26);
        bad(3, 65, 0, 66, 1, 65, 2, 27, 26);
        bad(3, 66, 0, 65, 1, 65, 2, 27, 26);
        bad(3, 65, 0, 65, 1, 66, 2, 27, 26);
        bad(2, 65, 0, 65, 1, 27, 26);
        good(0, 27, 69, 26);
        good(0, 27, 80, 26);
        good(0, 65, 0, 65, 1, 27, 69, 26);
        bad(4, 0, 65, 0, 65, 1, 27, 80, 26);
        good(0, 66, 0, 65, 1, 27, 80, 26);
        bad(4, 0, 66, 0, 65, 1, 27, 69, 26);
        bad(2, 0, 66, 0, 27, 26);
        bad(4, 0, 65, 0, 66, 1, 65, 2, 27, 26);
        // The lower one is known, the upper one is not: it takes that which is known.
        good(0, 65, 0, 13, 0, 27, 26);
        good(0, 65, 7, 27, 27, 69, 26);
        good(0, 65, 7, 27, 27, 80, 26);
    }

    /** Behind an unreachable, br, br_table or return, up to the else or end of the block in which it stands. */
    private static void whatIsDead() {
        int[][] ways = {a(0), a(12, 0), a(65, 0, 14, 0, 0), a(15)};
        for (int[] way : ways) {
            int one = way[0] == 65 ? 2 : 1;
            good(row(way, a(26)));
            good(row(a(2, 64), way, a(26, 26, 106, 26, 11)));
            bad(one + 2, row(a(2, 64), way, a(11, 26)));
            bad(one + 1, row(way, a(2, 64, 26, 11)));
            bad(one + 1, row(way, a(3, 64, 26, 11)));
            bad(one + 1, row(way, a(4, 64, 26, 11)));
            bad(one + 3, row(a(65, 0, 4, 64), way, a(5, 26, 11)));
            good(row(way, a(2, 64, 11, 26)));
            // The stack is at its height again then.
            good(row(a(2, 64, 65, 1, 66, 2), way, a(11)));
            good(row(a(65, 1, 2, 64, 65, 1, 66, 2), way, a(11, 26)));
            bad(one + 4, row(a(65, 1, 2, 64, 65, 1), way, a(11, 80, 26)));
        }
        bad(2, 65, 0, 13, 0, 26);
        bad(2, 65, 0, 4, 64, 26, 11);
        bad(1, 16, 1, 26);
    }

    /** UNKNOWN is taken for each SORT, by each of those that take it. */
    private static void unknownOnes() {
        for (int sort : a(I, L)) {
            int test = sort == I ? 69 : 80;
            good(row(a(0), a(test, 26)));
            good(row(a(0, 27), a(test, 26)));
            good(row(a(0, 27, 33, sort == I ? 0 : 1)));
            good(row(a(0, 27, 36, sort == I ? 0 : 1)));
            good(row(a(2, sort, 0, 27, 11, test, 26)));
            good(row(a(2, sort, 0, 27, 12, 0, 11, test, 26)));
            good(row(a(2, sort, 0, 13, 0, 11, test, 26)));
            good(row(a(2, sort, 0, 27, 65, 0, 13, 0, 11, test, 26)));
        }
        good(0, 27, 16, 0, 26);
        good(0, 27, 27, 16, 0, 26);
        // A local is of its SORT behind a tee, a value behind an end, though UNKNOWN was taken.
        bad(3, 0, 27, 34, 0, 80, 26);
        bad(4, 2, I, 0, 27, 11, 80, 26);
        bad(4, 0, 2, I, 0, 11, 80, 26);
    }

    /** By functions and instructions: 10000 times the function, imports counted, and the instruction. */
    private static void placesOfFaults() {
        int[] types = a(1, 2, 96, 0, 0, 96, 0, 1, I);
        int[] nop = a(2, 0, 11);
        int[] wrong = a(4, 0, 1, 26, 11);
        for (int imports = 0; imports < 5; imports++) {
            int[] section = a(2, imports);
            for (int k = 0; k < imports; k++) {
                section = row(section, a(1, 'h', 3, 'g', 'e', 't', 0, 1));
            }
            for (int first = 0; first < 4; first++) {
                int[] codes = a(10, 4);
                for (int f = 0; f < 4; f++) {
                    codes = row(codes, f >= first ? wrong : nop);
                }
                String want = "3 at " + ((imports + first) * 10000 + 1);
                Case.is("the first function that is wrong", Case.readFault(Case.module(types, section, a(3, 4, 0, 0, 0, 0), codes)), want);
            }
        }
        bad(0, 26, 26, 26);
        bad(1, 1, 26, 26);
    }

    /** A block that begins where a DEAD one has ended is not DEAD; nor is a function behind a DEAD one. */
    private static void deadOnesBesideOthers() {
        int[][] deaths = {a(0), a(12, 0), a(12, 1), a(15), a(65, 0, 14, 0, 0), a(65, 0, 14, 1, 0, 1)};
        int[] many = {1, 1, 1, 1, 2, 2};
        int[][] openers = {a(2, 64), a(3, 64), a(32, 0, 4, 64)};
        int[] instructions = {1, 1, 2};
        for (int d = 0; d < deaths.length; d++) {
            for (int one = 0; one < 3; one++) {
                for (int two = 0; two < 3; two++) {
                    int[] dead = row(openers[one], deaths[d], a(11));
                    int ahead = instructions[one] + many[d] + 1 + instructions[two];
                    good(row(dead, openers[two], a(11)));
                    bad(ahead, row(dead, openers[two], a(26, 11)));
                    bad(ahead, row(dead, openers[two], a(69, 26, 11)));
                    good(row(dead, openers[two], deaths[d], a(26, 11)));
                    bad(ahead + many[d] + 1, row(dead, openers[two], deaths[d], a(11, 26)));
                    bad(ahead - instructions[two], row(dead, a(26), openers[two], a(11)));
                }
            }
            // Within another one, and two times as deep.
            good(row(a(2, 64), openers[0], deaths[d], a(11, 2, 64, 11, 11)));
            bad(many[d] + 4, row(a(2, 64), openers[0], deaths[d], a(11, 2, 64, 26, 11, 11)));
            bad(many[d] + 5, row(a(2, 64), openers[0], deaths[d], a(11, 2, 64, 2, 64, 26, 11, 11, 11)));
            bad(many[d] + 4, row(a(2, 64), openers[0], deaths[d], a(11, 3, 64, 26, 11, 11)));
        }
        int[] head = Case.module(a(1, 1, 96, 0, 0), a(3, 2, 0, 0));
        Case.is("a function behind a DEAD one", Case.readFault(row(head, a(10, 9, 2, 3, 0, 0, 11, 3, 0, 26, 11))), "3 at 10000");
        Case.is("a DEAD function", Case.readFault(row(head, a(10, 10, 2, 3, 0, 0, 11, 4, 0, 0, 26, 11))), "none");
        Case.is("a DEAD function ahead", Case.readFault(row(head, a(10, 10, 2, 4, 0, 0, 26, 11, 3, 0, 26, 11))), "3 at 10000");
        Case.is("only the first wrong one counts", Case.readFault(row(head, a(10, 9, 2, 3, 0, 26, 11, 3, 0, 26, 11))), "3 at 0");
    }

    /** As much lies on the stack as instructions put there. */
    private static void muchOnTheStack() {
        for (int deep : a(1, 63, 64, 65, 127, 128, 129, 500, 2999)) {
            int[] sorts = new int[deep];
            for (int k = 0; k < deep; k++) {
                sorts[k] = k % 3 == 0 ? L : I;
            }
            good(row(consts(sorts), drops(deep)));
            bad(2 * deep - 1, row(consts(sorts), drops(deep - 1)));
            bad(2 * deep, row(consts(sorts), drops(deep + 1)));
        }
    }
}
