import java.util.ArrayList;

/** The edges of section 7 (promises 12 to 19): what may stand in BYTES, and the first byte that may not. */
public final class BytesEdgeTest {
    /** Stands just ahead of the byte that cannot stand. */
    private static final int HERE = -1;
    private static final int[] TYPES = {1, 18, 4, 96, 0, 0, 96, 0, 1, 127, 96, 1, 127, 0, 96, 2, 127, 126, 1, 126};

    public static void main(String[] args) {
        heads();
        sections();
        sizes();
        unsignedNumbers();
        signedNumbers();
        types();
        imports();
        functions();
        tables();
        memories();
        globals();
        exports();
        elements();
        datas();
        locals();
        instructions();
        withInstructions();
        everyInstruction();
        branchTables();
        secondKind();
        earlyEnds();
        written();
        theBytes();
        sameInAll();
        fewestGroups();
        sizesOfSections();
        secondOfTwo();
        notChangingOnes();
        sameInEachRow();
        Case.end();
    }

    private static int[] row(Object... parts) {
        ArrayList<Integer> all = new ArrayList<>();
        for (Object part : parts) {
            if (part instanceof Integer) {
                all.add((Integer) part);
            } else if (part instanceof String) {
                for (char c : ((String) part).toCharArray()) {
                    all.add((int) c);
                }
            } else {
                for (int one : (int[]) part) {
                    all.add(one);
                }
            }
        }
        int[] row = new int[all.size()];
        for (int k = 0; k < row.length; k++) {
            row[k] = all.get(k);
        }
        return row;
    }

    private static int[] times(int many, int... one) {
        int[] all = new int[many * one.length];
        for (int k = 0; k < all.length; k++) {
            all[k] = one[k % one.length];
        }
        return all;
    }

    /** A number (n), as few groups as needed. */
    private static int[] number(long number) {
        ArrayList<Integer> all = new ArrayList<>();
        long rest = number;
        while (rest > 127) {
            all.add((int) (rest & 127 | 128));
            rest >>>= 7;
        }
        all.add((int) rest);
        return row(all.stream().mapToInt(k -> k).toArray());
    }

    private static int bytesIn(int[] row) {
        int many = 0;
        for (int one : row) {
            many += one == HERE ? 0 : 1;
        }
        return many;
    }

    /** A section by its byte and what it has; the size is put in. */
    private static int[] section(int id, Object... parts) {
        int[] inside = row(parts);
        return row(id, number(bytesIn(inside)), inside);
    }

    /** A code with its size. */
    private static int[] code(Object... parts) {
        int[] inside = row(parts);
        return row(number(bytesIn(inside)), inside);
    }

    private static int[] whole(Object... sections) {
        return row(0, 97, 115, 109, 1, 0, 0, 0, row(sections));
    }

    private static Codekiln typed(int[] bytes) {
        byte[] all = new byte[bytesIn(bytes)];
        int at = 0;
        for (int one : bytes) {
            if (one != HERE) {
                all[at++] = (byte) one;
            }
        }
        Codekiln x = new Codekiln();
        Case.addAll(x, all);
        return x;
    }

    private static String fault(Codekiln x) {
        int got = x.read();
        int kind = x.fault(true);
        Case.is("read() beside fault()", got, kind == 0 ? 0 : Codekiln.NONE);
        return kind == 0 && x.fault(false) == Codekiln.NONE ? "none" : kind + " at " + x.fault(false);
    }

    private static void good(String what, Object... sections) {
        Case.is(what, fault(typed(whole(sections))), "none");
    }

    private static void wrong(int section, String what, Object... sections) {
        Case.is(what, fault(typed(whole(sections))), "2 at " + section);
    }

    private static void bad(String what, Object... sections) {
        badBytes(what, whole(sections));
    }

    private static void badBytes(String what, int... bytes) {
        int at = 0;
        while (at < bytes.length && bytes[at] != HERE) {
            at++;
        }
        Case.is(what, fault(typed(bytes)), "1 at " + at);
    }

    private static void types() {
        good("60 types", section(1, 60, times(60, 96, 0, 0)));
        bad("61 types", section(1, HERE, 61, times(61, 96, 0, 0)));
        bad("61 types, told alone", section(1, HERE, 61));
        good("20 parameters", section(1, 1, 96, 20, times(20, 126), 0));
        bad("21 parameters", section(1, 1, 96, HERE, 21, times(21, 126), 0));
        // All 20 of each type stand by themselves.
        int[] sorts = new int[20];
        for (int k = 0; k < 20; k++) {
            sorts[k] = 126 + k % 3 % 2;
        }
        Codekiln x = typed(whole(section(1, 3, 96, 20, sorts, 1, 126, 96, 20, times(20, 127), 0, 96, 20, times(20, 126), 1, 127), section(3, 3, 0, 1, 2),
            section(10, 3, code(0, 66, 0, 11), code(0, 11), code(0, 65, 0, 11))));
        Case.is("read at " + x.fault(false), fault(x), "none");
        for (int k = 0; k < 20; k++) {
            Case.is("parameter " + k, x.localSort(0, 0, k), sorts[k]);
            Case.is("parameter " + k, x.localSort(0, 1, k), 127);
            Case.is("parameter " + k, x.localSort(0, 2, k), 126);
        }
        for (int f = 0; f < 3; f++) {
            int own = f;
            Case.is("parameters", x.functionAt(0, f, 1), 20);
            Case.is("value", x.functionAt(0, f, 4), f == 0 ? 126 : f == 1 ? 64 : 127);
            Case.noIndex("a 21st", () -> x.localSort(0, own, 20));
        }
        good("no value", section(1, 1, 96, 0, 0));
        good("one value", section(1, 1, 96, 0, 1, 126));
        bad("two values", section(1, 1, 96, 0, HERE, 2, 126, 126));
        for (int sort : new int[] {126, 127}) {
            good("SORT " + sort, section(1, 1, 96, 1, sort, 1, sort));
        }
        for (int sort : new int[] {0, 64, 124, 125, 128, 255}) {
            bad("SORT " + sort, section(1, 1, 96, 1, HERE, sort, 0));
            bad("SORT " + sort, section(1, 1, 96, 0, 1, HERE, sort));
        }
        for (int first : new int[] {0, 95, 97, 224}) {
            bad("a type by " + first, section(1, 1, HERE, first, 0, 0));
        }
    }

    private static void heads() {
        int[] head = {0, 97, 115, 109, 1, 0, 0, 0};
        good("the head alone");
        for (int k = 0; k < 8; k++) {
            int[] other = head.clone();
            other[k] ^= 1;
            Case.is("another byte " + k, fault(typed(other)), "1 at " + k);
            Case.is("an end at " + k, fault(typed(java.util.Arrays.copyOf(head, k))), "1 at " + k);
        }
    }

    private static void sections() {
        int[] ids = {1, 2, 3, 4, 5, 6, 7, 9, 10, 11};
        int[][] empty = {section(1, 0), section(2, 0), section(3, 0), section(4, 1, 112, 0, 0), section(5, 1, 1, 0, 0), section(6, 0),
            section(7, 0), section(9, 0), section(10, 0), section(11, 0)};
        good("all sections", (Object[]) empty);
        for (int k = 0; k < ids.length; k++) {
            good("the section " + ids[k] + " alone", empty[k]);
            bad("the section " + ids[k] + " twice", empty[k], HERE, empty[k]);
            for (int ahead = 0; ahead < k; ahead++) {
                good("the sections " + ids[ahead] + " and " + ids[k], empty[ahead], empty[k]);
                bad("the sections " + ids[k] + " and " + ids[ahead], empty[k], HERE, empty[ahead]);
            }
        }
        for (int id : new int[] {0, 8, 12, 127, 128, 255}) {
            bad("a section " + id, HERE, id, 1, 0);
            bad("a section " + id + " behind another", section(1, 0), HERE, id, 1, 0);
        }
        bad("a byte more", section(11, 0), HERE, 0);
    }

    /** At the first byte behind what the section, or code, has, as it is read. */
    private static void sizes() {
        bad("a section's size is 1 too great", 1, 2, 0, HERE);
        bad("a section's size is 1 too great", 1, 2, 0, HERE, 2, 1, 0);
        bad("a section's size is 1 too small", 1, 3, 1, 96, 0, 0, HERE);
        bad("a section's size is 1 too small", 1, 0, 0, HERE, 2, 1, 0);
        good("a size in more groups", 1, 129, 128, 0, 0);
        bad("a size that is far too great", 1, 255, 255, 255, 255, 15, 0, HERE);
        int[] ahead = row(section(1, 1, 96, 0, 0), section(3, 1, 0));
        good("a code", ahead, section(10, 1, 2, 0, 11));
        bad("a code's size is 1 too great", ahead, section(10, 1, 3, 0, 11, HERE));
        bad("a code's size is 1 too great", ahead, section(10, 1, 3, 0, 11, HERE, 0));
        bad("a code's size is 1 too small", ahead, section(10, 1, 1, 0, 11, HERE));
        bad("a code's size is 0", ahead, section(10, 1, 0, 0, 11, HERE));
        good("a code's size in more groups", ahead, section(10, 1, 130, 0, 0, 11));
        bad("the codes' size is 1 too great", ahead, 10, 5, 1, 2, 0, 11, HERE);
        bad("the codes' size is 1 too small", ahead, 10, 3, 1, 2, 0, 11, HERE);
        // What cannot stand in it comes ahead of its size.
        bad("both", ahead, 10, 9, 1, 9, 0, HERE, 6, 11);
        bad("a code of another size ahead of the section's", ahead, 10, 9, 1, 9, 0, 11, HERE);
    }

    /** (n): at most 5 groups, below 2 to the power of 32; the place of what is too long or too great is its first byte. */
    private static void unsignedNumbers() {
        good("1 group", section(1, 0));
        good("5 groups", section(1, 128, 128, 128, 128, 0));
        bad("6 groups", section(1, HERE, 128, 128, 128, 128, 128, 0));
        bad("5 groups and an end", section(1, HERE, 128, 128, 128, 128, 128));
        bad("4 groups and an end", 1, 4, 128, 128, 128, 128, HERE);
        bad("below 2 to the power of 32, but too many", section(1, HERE, 255, 255, 255, 255, 15));
        bad("2 to the power of 32", section(1, HERE, 128, 128, 128, 128, 16));
        bad("a high bit", section(1, HERE, 128, 128, 128, 128, 64));
        int[] ahead = row(section(1, 1, 96, 0, 0), section(3, 1, 0));
        wrong(3, "a type 4294967295", section(1, 1, 96, 0, 0), section(3, 1, 255, 255, 255, 255, 15));
        bad("a type 4294967296", section(1, 1, 96, 0, 0), section(3, 1, HERE, 128, 128, 128, 128, 16));
        wrong(7, "a function 4294967295", ahead, section(7, 1, 0, 0, 255, 255, 255, 255, 15), section(10, 1, 2, 0, 11));
        good("a br 0 in 5 groups", ahead, section(10, 1, code(0, 12, 128, 128, 128, 128, 0, 11)));
        bad("a br in 6 groups", ahead, section(10, 1, code(0, 12, HERE, 128, 128, 128, 128, 128, 0, 11)));
        Case.is("a br 4294967295", fault(typed(whole(ahead, section(10, 1, code(0, 12, 255, 255, 255, 255, 15, 11))))), "3 at 0");
        // An offset may be 4294967295.
        int[] memory = row(ahead, section(5, 1, 1, 1, 1));
        Codekiln x = typed(whole(memory, section(10, 1, code(0, 65, 0, 40, 2, 255, 255, 255, 255, 15, 26, 11))));
        Case.is("an offset 4294967295", fault(x), "none");
        Case.is("the offset", x.opAt(0, 0, 1, 1), 4294967295L);
        x.write(0);
        Case.is("written and read", x.same(0, x.read()), true);
        bad("an offset 4294967296", memory, section(10, 1, code(0, 65, 0, 40, 2, HERE, 128, 128, 128, 128, 16, 26, 11)));
    }

    private static int[] groups(long number, int many) {
        int[] all = new int[many];
        for (int k = 0; k < many; k++) {
            all[k] = (int) (number >> Math.min(63, 7 * k)) & 127 | (k + 1 < many ? 128 : 0);
        }
        return all;
    }

    /** (s): of i32 and places at most 5 groups, of i64 at most 10, within its bits. */
    private static void signedNumbers() {
        int[] ahead = row(section(1, 1, 96, 0, 0), section(3, 1, 0));
        long[] words = {0, 63, 64, -64, -65, Integer.MAX_VALUE, Integer.MIN_VALUE, -1};
        for (long word : words) {
            int[] number = groups(word, 5);
            Codekiln x = typed(whole(ahead, section(10, 1, code(0, 65, number, 26, 11))));
            Case.is("a const " + word, fault(x), "none");
            Case.is("its number", x.opAt(0, 0, 0, 1), word);
            good("a global " + word, section(6, 1, 127, 0, 65, number, 11));
            if (word < 0) {
                wrong(11, "a place " + word, section(5, 1, 1, 8, 8), section(11, 1, 0, 65, number, 11, 0));
                wrong(9, "a place " + word, section(4, 1, 112, 0, 40), section(9, 1, 0, 65, number, 11, 0));
            }
        }
        long[] others = {1L << 31, (1L << 31) + 5, -(1L << 31) - 1, 1L << 33, (1L << 32) - 1, -(1L << 33)};
        for (long other : others) {
            int[] number = groups(other, 5);
            bad("a const " + other, ahead, section(10, 1, code(0, 65, HERE, number, 26, 11)));
            bad("a global " + other, section(6, 1, 127, 0, 65, HERE, number, 11));
            bad("a place " + other, section(5, 1, 1, 8, 8), section(11, 1, 0, 65, HERE, number, 11, 0));
            bad("an entry " + other, section(4, 1, 112, 0, 8), section(9, 1, 0, 65, HERE, number, 11, 0));
        }
        bad("6 groups", ahead, section(10, 1, code(0, 65, HERE, groups(0, 6), 26, 11)));
        bad("6 groups", ahead, section(10, 1, code(0, 65, HERE, groups(-1, 6), 26, 11)));
        bad("an end in it", section(6, 1, 127, 0, 65, 128, 128), HERE);
        long[] longs = {0, 1L << 31, 1L << 62, Long.MAX_VALUE, Long.MIN_VALUE, -1};
        for (long one : longs) {
            int[] number = groups(one, 10);
            Codekiln x = typed(whole(ahead, section(10, 1, code(0, 66, number, 26, 11))));
            Case.is("a const " + one, fault(x), "none");
            Case.is("its number", x.opAt(0, 0, 0, 1), one);
            good("a global " + one, section(6, 1, 126, 1, 66, number, 11));
        }
        for (int last : new int[] {1, 2, 63, 64, 126}) {
            int[] number = groups(0, 10);
            number[9] = last;
            bad("a last group " + last, ahead, section(10, 1, code(0, 66, HERE, number, 26, 11)));
            bad("a last group " + last, section(6, 1, 126, 1, 66, HERE, number, 11));
        }
        bad("11 groups", ahead, section(10, 1, code(0, 66, HERE, groups(0, 11), 26, 11)));
        bad("11 groups", ahead, section(10, 1, code(0, 66, HERE, groups(-1, 11), 26, 11)));
    }

    private static void imports() {
        int[] get = row(1, "h", 3, "get", 0, 1);
        int[] put = row(1, "h", 3, "put", 0, 2);
        good("none", TYPES, section(2, 0));
        good("4 imports", TYPES, section(2, 4, get, put, get, put));
        bad("5 imports", TYPES, section(2, HERE, 5, get, put, get, put, get));
        wrong(2, "10 bytes of a name", TYPES, section(2, 1, 1, "h", 10, "getgetgetg", 0, 1));
        bad("11 bytes of a name", TYPES, section(2, 1, 1, "h", HERE, 11, "getgetgetge", 0, 1));
        wrong(2, "10 bytes of the first name", TYPES, section(2, 1, 10, "hhhhhhhhhh", 3, "get", 0, 1));
        bad("11 bytes of the first name", TYPES, section(2, 1, HERE, 11, "hhhhhhhhhhh", 3, "get", 0, 1));
        wrong(2, "no bytes of a name", TYPES, section(2, 1, 0, 3, "get", 0, 1));
        wrong(2, "no bytes of a name", TYPES, section(2, 1, 1, "h", 0, 0, 1));
        wrong(2, "another name", TYPES, section(2, 1, 1, "g", 3, "get", 0, 1));
        wrong(2, "another name", TYPES, section(2, 1, 1, "h", 3, "gut", 0, 1));
        wrong(2, "a longer name", TYPES, section(2, 1, 1, "h", 4, "gets", 0, 1));
        wrong(2, "a shorter name", TYPES, section(2, 1, 1, "h", 2, "pu", 0, 2));
        wrong(2, "a longer name", TYPES, section(2, 1, 2, "hh", 3, "put", 0, 2));
        bad("no function", TYPES, section(2, 1, 1, "h", 3, "get", HERE, 1, 1));
        for (int type = 0; type < 6; type++) {
            if (type == 1) {
                good("get", TYPES, section(2, 1, 1, "h", 3, "get", 0, type));
            } else {
                wrong(2, "get of the type " + type, TYPES, section(2, 1, 1, "h", 3, "get", 0, type));
            }
            if (type == 2) {
                good("put", TYPES, section(2, 1, 1, "h", 3, "put", 0, type));
            } else {
                wrong(2, "put of the type " + type, TYPES, section(2, 1, 1, "h", 3, "put", 0, type));
            }
        }
        wrong(2, "without types", section(2, 1, get));
        int[] others = section(1, 4, 96, 0, 1, 126, 96, 1, 126, 0, 96, 1, 127, 1, 127, 96, 2, 127, 127, 0);
        for (int type = 0; type < 4; type++) {
            wrong(2, "get of " + type, others, section(2, 1, 1, "h", 3, "get", 0, type));
            wrong(2, "put of " + type, others, section(2, 1, 1, "h", 3, "put", 0, type));
        }
    }

    private static void functions() {
        int[] get = row(1, "h", 3, "get", 0, 1);
        int[] codes = section(10, 60, times(60, 2, 0, 11));
        good("60 functions", TYPES, section(3, 60, times(60, 0)), codes);
        bad("61 functions", TYPES, section(3, HERE, 61, times(61, 0)));
        good("4 and 56", TYPES, section(2, 4, get, get, get, get), section(3, 56, times(56, 0)), section(10, 56, times(56, 2, 0, 11)));
        bad("4 and 57", TYPES, section(2, 4, get, get, get, get), section(3, HERE, 57, times(57, 0)));
        good("the last type", TYPES, section(3, 1, 3), section(10, 1, code(0, 66, 0, 11)));
        wrong(3, "the type behind it", TYPES, section(3, 1, 4), section(10, 1, code(0, 66, 0, 11)));
        wrong(3, "without types", section(3, 1, 0), section(10, 1, code(0, 11)));
        good("as many codes", TYPES, section(3, 2, 0, 0), section(10, 2, 2, 0, 11, 2, 0, 11));
        wrong(10, "one code less", TYPES, section(3, 2, 0, 0), section(10, 1, 2, 0, 11));
        wrong(10, "one code more", TYPES, section(3, 2, 0, 0), section(10, 3, times(3, 2, 0, 11)));
        wrong(10, "no codes", TYPES, section(3, 1, 0));
        wrong(10, "codes without functions", section(10, 1, 2, 0, 11));
        good("no codes of none", TYPES, section(10, 0));
        bad("a code more that cannot stand", TYPES, section(3, 1, 0), section(10, 2, 2, 0, 11, 2, 0, HERE, 6));
    }

    private static void tables() {
        good("40 entries", section(4, 1, 112, 0, 40));
        good("no entries", section(4, 1, 112, 0, 0));
        bad("41 entries", section(4, 1, 112, 0, HERE, 41));
        bad("no table", section(4, HERE, 0));
        bad("two tables", section(4, HERE, 2, 112, 0, 1, 112, 0, 1));
        bad("another table", section(4, 1, HERE, 111, 0, 1));
        bad("a table with a most", section(4, 1, 112, HERE, 1, 1, 1));
    }

    private static void memories() {
        good("8 pages", section(5, 1, 1, 8, 8));
        good("no pages", section(5, 1, 1, 0, 0));
        bad("9 pages", section(5, 1, 1, 0, HERE, 9));
        bad("9 pages", section(5, 1, 1, 9, HERE, 9));
        good("as many at least", section(5, 1, 1, 3, 3));
        wrong(5, "more at least", section(5, 1, 1, 4, 3));
        wrong(5, "1 at least, 0 at most", section(5, 1, 1, 1, 0));
        wrong(5, "4294967295 at least", section(5, 1, 1, number(4294967295L), 8));
        bad("no memory", section(5, HERE, 0));
        bad("two memories", section(5, HERE, 2, 1, 1, 1, 1, 1, 1));
        bad("a memory without a most", section(5, 1, HERE, 0, 1));
        bad("another memory", section(5, 1, HERE, 2, 1, 1));
        Codekiln x = typed(whole(section(4, 1, 112, 0, 40), section(5, 1, 1, 2, 8)));
        Case.is("read", x.read(), 0);
        Case.is("entries", x.moduleIs(0, 3), 40);
        Case.is("at least", x.moduleIs(0, 10), 2);
        Case.is("at most", x.moduleIs(0, 11), 8);
        Codekiln y = typed(whole());
        y.read();
        Case.is("without a table", y.moduleIs(0, 3), 0);
        Case.is("without a memory", y.moduleIs(0, 10), 0);
        Case.is("without a memory", y.moduleIs(0, 11), 0);
        Case.is("written", y.write(0), 8 + 8 * 3);
        Codekiln z = typed(whole(section(4, 1, 112, 0, 0), section(5, 1, 1, 0, 0)));
        z.read();
        Case.is("written with a table, a memory of nothing", z.write(0), 8 + 8 * 3 + 6 + 6);
        Case.is("read", z.read(), 1);
        Case.is("same", z.same(0, 1), true);
        y.write(0);
        Case.is("read", y.read(), 1);
        Case.is("same", y.same(0, 1), true);
        Case.setBytes(y, whole(section(4, 1, 112, 0, 0)));
        y.read();
        Case.is("a table of nothing is not none", y.same(0, 2), false);
    }

    private static void globals() {
        int[] one = {127, 0, 65, 0, 11};
        good("6 globals", section(6, 6, times(6, one)));
        bad("7 globals", section(6, HERE, 7, times(7, one)));
        bad("a SORT 125", section(6, 1, HERE, 125, 0, 65, 0, 11));
        good("it changes", section(6, 1, 126, 1, 66, 0, 11));
        bad("changes 2", section(6, 1, 126, HERE, 2, 66, 0, 11));
        bad("66 for i32", section(6, 1, 127, 0, HERE, 66, 0, 11));
        bad("65 for i64", section(6, 1, 126, 0, HERE, 65, 0, 11));
        bad("no end", section(6, 1, 127, 0, 65, 0, HERE, 10));
    }

    private static void exports() {
        int[] ahead = row(TYPES, section(3, 1, 0));
        int[] codes = section(10, 1, 2, 0, 11);
        int[] twenty = new int[0];
        for (int k = 0; k < 20; k++) {
            twenty = row(twenty, 1, k, 0, 0);
        }
        good("20 exports", ahead, section(7, 20, twenty), codes);
        bad("21 exports", ahead, section(7, HERE, 21, twenty, 1, 20, 0, 0), codes);
        good("10 bytes of a name", ahead, section(7, 1, 10, "0123456789", 0, 0), codes);
        bad("11 bytes of a name", ahead, section(7, 1, HERE, 11, "0123456789a", 0, 0), codes);
        good("no bytes of a name", ahead, section(7, 1, 0, 0, 0), codes);
        good("any bytes of a name", ahead, section(7, 1, 3, 0, 255, 128, 0, 0), codes);
        bad("no function", ahead, section(7, 1, 1, "a", HERE, 3, 0), codes);
        wrong(7, "the function behind the last one", ahead, section(7, 1, 1, "a", 0, 1), codes);
        wrong(7, "a name twice", ahead, section(7, 3, 1, "a", 0, 0, 1, "b", 0, 0, 1, "a", 0, 0), codes);
        good("the first bytes of a name", ahead, section(7, 2, 1, "a", 0, 0, 2, "aa", 0, 0), codes);
        for (int length = 1; length <= 10; length++) {
            String name = "abcdefghij".substring(0, length);
            wrong(7, "a name of " + length + " twice", ahead, section(7, 2, length, name, 0, 0, length, name, 0, 0), codes);
            for (int k = 0; k < length; k++) {
                String other = name.substring(0, k) + "z" + name.substring(k + 1);
                good(name + " and " + other, ahead, section(7, 2, length, name, 0, 0, length, other, 0, 0), codes);
                wrong(7, name + ", " + other + ", " + name, ahead, section(7, 3, length, name, 0, 0, length, other, 0, 0, length, name, 0, 0), codes);
            }
        }
        wrong(7, "no name twice", ahead, section(7, 2, 0, 0, 0, 0, 0, 0), codes);
        int[] get = row(1, "h", 3, "get", 0, 1);
        good("an import, and the last one", TYPES, section(2, 1, get), section(3, 1, 0), section(7, 2, 1, "a", 0, 0, 1, "b", 0, 1), codes);
        wrong(7, "one behind it", TYPES, section(2, 1, get), section(3, 1, 0), section(7, 1, 1, "a", 0, 2), codes);
    }

    private static void elements() {
        int[] ahead = row(TYPES, section(3, 1, 0), section(4, 1, 112, 0, 40));
        int[] codes = section(10, 1, 2, 0, 11);
        int[] none = {0, 65, 0, 11, 0};
        good("6 elements", ahead, section(9, 6, times(6, none)), codes);
        bad("7 elements", ahead, section(9, HERE, 7, times(7, none)), codes);
        good("60 functions", ahead, section(9, 2, 0, 65, 0, 11, 40, times(40, 0), 0, 65, 20, 11, 20, times(20, 0)), codes);
        bad("61 functions", ahead, section(9, 2, 0, 65, 0, 11, 40, times(40, 0), 0, 65, 0, 11, HERE, 21, times(21, 0)), codes);
        bad("61 at once", ahead, section(9, 1, 0, 65, 0, 11, HERE, 61, times(61, 0)), codes);
        wrong(9, "60 at once", ahead, section(9, 1, 0, 65, 0, 11, 60, times(60, 0)), codes);
        good("up to the last entry", ahead, section(9, 1, 0, 65, 37, 11, 3, 0, 0, 0), codes);
        wrong(9, "beyond the last entry", ahead, section(9, 1, 0, 65, 38, 11, 3, 0, 0, 0), codes);
        good("nothing behind the last entry", ahead, section(9, 1, 0, 65, 40, 11, 0), codes);
        wrong(9, "nothing beyond that", ahead, section(9, 1, 0, 65, 41, 11, 0), codes);
        wrong(9, "below 0", ahead, section(9, 1, 0, 65, 127, 11, 0), codes);
        wrong(9, "far beyond", ahead, section(9, 1, 0, 65, groups(Integer.MAX_VALUE, 5), 11, 1, 0), codes);
        good("the last function", ahead, section(9, 1, 0, 65, 0, 11, 1, 0), codes);
        wrong(9, "one that there is not", ahead, section(9, 1, 0, 65, 0, 11, 1, 1), codes);
        good("nothing without a table", section(9, 1, none));
        wrong(9, "one without a table", TYPES, section(3, 1, 0), section(9, 1, 0, 65, 0, 11, 1, 0), codes);
        wrong(9, "a place without a table", section(9, 1, 0, 65, 1, 11, 0));
        bad("another kind", ahead, section(9, 1, HERE, 1, 65, 0, 11, 0), codes);
        bad("a LONG place", ahead, section(9, 1, 0, HERE, 66, 0, 11, 0), codes);
        bad("no end", ahead, section(9, 1, 0, 65, 0, HERE, 12, 0), codes);
    }

    private static void datas() {
        int[] ahead = section(5, 1, 1, 4, 8);
        int[] none = {0, 65, 0, 11, 0};
        good("6 data", ahead, section(11, 6, times(6, none)));
        bad("7 data", ahead, section(11, HERE, 7, times(7, none)));
        good("4000 bytes", ahead, section(11, 1, 0, 65, 0, 11, number(4000), times(4000, 5)));
        bad("4001 bytes", ahead, section(11, 1, 0, 65, 0, 11, HERE, number(4001), times(4001, 5)));
        good("3999 and 1", ahead, section(11, 2, 0, 65, 0, 11, number(3999), times(3999, 5), 0, 65, 0, 11, 1, 5));
        bad("3999 and 2", ahead, section(11, 2, 0, 65, 0, 11, number(3999), times(3999, 5), 0, 65, 0, 11, HERE, 2, 5, 5));
        good("up to the last byte", ahead, section(11, 1, 0, 65, groups(4094, 2), 11, 2, 5, 5));
        wrong(11, "beyond the last byte", ahead, section(11, 1, 0, 65, groups(4095, 2), 11, 2, 5, 5));
        good("nothing behind the last byte", ahead, section(11, 1, 0, 65, groups(4096, 2), 11, 0));
        wrong(11, "nothing beyond that", ahead, section(11, 1, 0, 65, groups(4097, 2), 11, 0));
        wrong(11, "below 0", ahead, section(11, 1, 0, 65, 127, 11, 1, 5));
        wrong(11, "far beyond", ahead, section(11, 1, 0, 65, groups(Integer.MAX_VALUE, 5), 11, 1, 5));
        good("nothing without a memory", section(11, 1, none));
        wrong(11, "a byte without a memory", section(11, 1, 0, 65, 0, 11, 1, 5));
        wrong(11, "a place without a memory", section(11, 1, 0, 65, 1, 11, 0));
        good("nothing in no pages", section(5, 1, 1, 0, 8), section(11, 1, none));
        wrong(11, "a byte in no pages", section(5, 1, 1, 0, 8), section(11, 1, 0, 65, 0, 11, 1, 5));
        bad("another kind", ahead, section(11, 1, HERE, 1, 65, 0, 11, 0));
        bad("a LONG place", ahead, section(11, 1, 0, HERE, 66, 0, 11, 0));
        bad("no end", ahead, section(11, 1, 0, 65, 0, HERE, 12, 0));
    }

    private static void locals() {
        int[] ahead = row(TYPES, section(3, 1, 0));
        good("250 locals", ahead, section(10, 1, code(1, number(250), 127, 11)));
        bad("251 locals", ahead, section(10, 1, code(1, HERE, number(251), 127, 11)));
        good("100 and 150", ahead, section(10, 1, code(2, 100, 127, number(150), 126, 11)));
        bad("100 and 151", ahead, section(10, 1, code(2, 100, 127, HERE, number(151), 126, 11)));
        good("250 and 0", ahead, section(10, 1, code(2, number(250), 127, 0, 126, 11)));
        bad("250 and 1", ahead, section(10, 1, code(2, number(250), 127, HERE, 1, 126, 11)));
        bad("a SORT 125", ahead, section(10, 1, code(1, 1, HERE, 125, 11)));
        bad("a SORT of none", ahead, section(10, 1, code(1, 0, HERE, 64, 11)));
        good("many stretches of none", ahead, section(10, 1, code(number(300), times(300, 0, 127), 11)));
        // Parameters do not count; stretches of like SORTS become one as they are written.
        good("2 parameters and 250", TYPES, section(3, 1, 3), section(10, 1, code(1, number(250), 127, 66, 0, 11)));
        Codekiln x = typed(whole(ahead, section(10, 1, code(6, 1, 127, 2, 127, 0, 126, 3, 127, 1, 126, 4, 126, 11))));
        Case.is("read", x.read(), 0);
        Case.is("locals", x.moduleIs(0, 13), 11);
        Case.is("SORTS", Case.locals(x, 0, 0), "[127, 127, 127, 127, 127, 127, 126, 126, 126, 126, 126]");
        x.write(0);
        int length = x.moduleIs(0, 8);
        int[] end = row(10, 8, 1, 6, 2, 6, 127, 5, 126, 11, 11, 1, 0);
        for (int k = 0; k < end.length; k++) {
            Case.is("byte " + k + " from the codes on", x.byteAt(length - end.length + k), end[k]);
        }
    }

    private static void instructions() {
        int[] ahead = row(TYPES, section(3, 1, 0));
        good("6000 instructions", ahead, section(10, 1, code(0, times(5999, 1), 11)));
        bad("6001 instructions", ahead, section(10, 1, code(0, times(6000, 1), HERE, 11)));
        bad("6002 instructions", ahead, section(10, 1, code(0, times(6000, 1), HERE, 1, 11)));
        for (int op = 2; op < 5; op++) {
            int[] test = op == 4 ? row(65, 0, 4, 64) : row(op, 64);
            good("240 open", ahead, section(10, 1, code(0, times(240, test), times(241, 11))));
            int[] last = op == 4 ? row(65, 0, HERE, 4, 64) : row(HERE, op, 64);
            bad("241 open", ahead, section(10, 1, code(0, times(240, test), last, times(242, 11))));
        }
        good("more than 240, not at once", ahead, section(10, 1, code(0, times(400, 2, 64, 11), 11)));
        good("two functions", TYPES, section(3, 2, 0, 0), section(10, 2, code(0, times(5000, 1), 11), code(0, times(5000, 1), 11)));
        bad("bytes behind the end that closes the function", ahead, section(10, 1, 3, 0, 11, HERE, 11));
        Case.is("an else of the function is another fault", fault(typed(whole(ahead, section(10, 1, code(0, 5, 11))))), "3 at 0");
    }

    /** What stands with instructions. */
    private static void withInstructions() {
        int[] ahead = row(TYPES, section(3, 1, 0), section(4, 1, 112, 0, 1), section(5, 1, 1, 1, 1));
        for (int sort : new int[] {0, 63, 65, 125, 128, 192, 255}) {
            for (int op = 2; op < 5; op++) {
                bad("block, loop or if of " + sort, ahead, section(10, 1, code(0, op, HERE, sort, 11, 11)));
            }
        }
        int[][] memory = {{40, 2}, {41, 3}, {45, 0}, {54, 2}, {55, 3}, {58, 0}};
        for (int[] one : memory) {
            for (int number = 0; number < 5; number++) {
                if (number == one[1]) {
                    good(one[0] + " with " + number, ahead, section(10, 1, code(0, 0, one[0], number, 0, one[0] < 50 ? row(26) : row(), 11)));
                } else {
                    bad(one[0] + " with " + number, ahead, section(10, 1, code(0, 0, one[0], HERE, number, 0, 11)));
                }
            }
            bad(one[0] + " with a number in 2 groups", ahead, section(10, 1, code(0, 0, one[0], HERE, one[1] | 128, 0, 0, 11)));
        }
        bad("size with 1", ahead, section(10, 1, code(0, 63, HERE, 1, 26, 11)));
        bad("grow with 1", ahead, section(10, 1, code(0, 65, 0, 64, HERE, 1, 26, 11)));
        bad("size with 0 in 2 groups", ahead, section(10, 1, code(0, 63, HERE, 128, 0, 26, 11)));
        bad("call_indirect with 1", ahead, section(10, 1, code(0, 65, 0, 17, 0, HERE, 1, 11)));
        good("call_indirect with 0", ahead, section(10, 1, code(0, 65, 0, 17, 0, 0, 11)));
    }

    /** Each byte: whether it is an instruction. */
    private static void everyInstruction() {
        int[] none = {0, 1, 5, 11, 15, 26, 27, 69, 70, 71, 72, 73, 74, 75, 76, 77, 78, 79, 80, 81, 82, 83, 84, 85, 86, 87, 88, 89, 90,
            106, 107, 108, 109, 111, 113, 114, 115, 116, 117, 118, 124, 125, 126, 127, 129, 131, 132, 133, 134, 135, 136, 167, 172};
        int[] more = {2, 3, 4, 12, 13, 14, 16, 17, 32, 33, 34, 35, 36, 40, 41, 45, 54, 55, 58, 63, 64, 65, 66};
        boolean[] is = new boolean[256];
        for (int op : none) {
            is[op] = true;
        }
        for (int op : more) {
            is[op] = true;
        }
        int[] ahead = row(TYPES, section(3, 1, 0));
        for (int op = 0; op < 256; op++) {
            if (!is[op]) {
                bad("the byte " + op, ahead, section(10, 1, code(0, HERE, op, 0, 0, 11)));
            }
        }
        for (int op : none) {
            if (op != 11) {
                Codekiln x = typed(whole(ahead, section(10, 1, code(0, op, 11))));
                x.read();
                Case.is("the byte " + op + " is no fault of the first kind", x.fault(true) != 1, true);
            }
        }
    }

    private static void branchTables() {
        int[] ahead = row(TYPES, section(3, 1, 0));
        good("60 places", ahead, section(10, 1, code(0, 65, 0, 14, 60, times(61, 0), 11)));
        bad("61 places", ahead, section(10, 1, code(0, 65, 0, 14, HERE, 61, times(62, 0), 11)));
        good("no places but the last one", ahead, section(10, 1, code(0, 65, 0, 14, 0, 0, 11)));
        Codekiln x = typed(whole(ahead, section(10, 1, code(0, 2, 64, 65, 0, 14, 60, times(60, 1), 0, 11, 11))));
        Case.is("read", x.read(), 0);
        Case.is("places", x.opAt(0, 0, 2, 1), 60);
        Case.is("the first one", x.targetAt(0, 0, 2, 0), 1);
        Case.is("the 60th", x.targetAt(0, 0, 2, 59), 1);
        Case.is("the last one", x.targetAt(0, 0, 2, 60), 0);
        Case.noElement("one behind it", () -> x.targetAt(0, 0, 2, 61));
        Case.noElement("one ahead", () -> x.targetAt(0, 0, 2, -1));
        Case.is("a place that there is not",
            fault(typed(whole(ahead, section(10, 1, code(0, 65, 0, 14, 1, 255, 255, 255, 255, 15, 0, 11))))), "3 at 1");
    }

    /** The first section with a fault of the second kind; those of the third kind come behind. */
    private static void secondKind() {
        int[] import2 = section(2, 1, 1, "g", 3, "get", 0, 1);
        int[] functions3 = section(3, 1, 9);
        int[] memory5 = section(5, 1, 1, 2, 1);
        int[] exports7 = section(7, 1, 0, 0, 99);
        int[] elements9 = section(9, 1, 0, 65, 9, 11, 0);
        int[] codes10 = section(10, 2, code(0, 26, 11), code(0, 26, 11));
        int[] data11 = section(11, 1, 0, 65, 127, 11, 0);
        int[][] all = {import2, functions3, memory5, exports7, elements9, codes10, data11};
        int[] numbers = {2, 3, 5, 7, 9, 10, 11};
        int[][] fine = {section(2, 0), section(3, 1, 0), section(5, 1, 1, 1, 1), section(7, 0), section(9, 0), section(10, 1, code(0, 26, 11)),
            section(11, 0)};
        for (int from = 0; from < all.length; from++) {
            Object[] whole = new Object[all.length + 1];
            whole[0] = TYPES;
            for (int k = 0; k < all.length; k++) {
                whole[k + 1] = k < from ? fine[k] : all[k];
            }
            wrong(numbers[from], "from the section " + numbers[from] + " on", whole);
        }
        Object[] last = {TYPES, fine[0], fine[1], fine[2], fine[3], fine[4], fine[5], fine[6]};
        Case.is("the third kind", fault(typed(whole(last))), "3 at 0");
        bad("the first kind", TYPES, import2, functions3, memory5, exports7, elements9, codes10, 11, 7, 1, 0, 65, 127, 11, 0, HERE);
    }

    /** Every end that is too early. */
    private static void earlyEnds() {
        int[] whole = whole(TYPES, section(2, 1, 1, "h", 3, "get", 0, 1), section(3, 1, 3), section(4, 1, 112, 0, 3), section(5, 1, 1, 1, 2),
            section(6, 2, 127, 1, 65, 255, 0, 11, 126, 0, 66, 128, 1, 11), section(7, 2, 3, "abc", 0, 1, 0, 0, 0),
            section(9, 1, 0, 65, 1, 11, 2, 0, 1), section(10, 1, code(2, 1, 127, 2, 126, 2, 64, 65, 200, 0, 14, 1, 0, 0, 11, 32, 1, 11)),
            section(11, 1, 0, 65, 16, 11, 3, 1, 2, 3));
        boolean[] between = new boolean[whole.length];
        for (int at = 8; at < whole.length; at += 2 + whole[at + 1]) {
            between[at] = true;
        }
        Case.is("the whole", fault(typed(whole)), "none");
        for (int end = 0; end < whole.length; end++) {
            String due = "1 at " + end;
            if (between[end]) {
                int last = lastSection(whole, end);
                due = last < 3 || last >= 10 ? "none" : "2 at 10";
            }
            Case.is("an end at " + end, fault(typed(java.util.Arrays.copyOf(whole, end))), due);
        }
    }

    private static int lastSection(int[] whole, int end) {
        int at = 8;
        int last = 0;
        while (at < end) {
            last = whole[at];
            at += 2 + whole[at + 1];
        }
        return last;
    }

    /** write() up to 20000 bytes. */
    private static void written() {
        // 13 functions of 48 calls of a leaf of 30 nops, and one of some nops, which tune the length.
        for (int more = 0; more < 2; more++) {
            Codekiln x = long20000(more);
            x.pass(0, 0);
            int length = x.moduleIs(1, 8);
            Case.is("bytes of the module", length, 20000 + more);
            if (more == 0) {
                Case.is("write", x.write(1), 20000);
                Case.is("the last byte", x.byteAt(19999), 0);
                Case.is("none behind it", x.byteAt(20000), -1);
                Case.noState("one byte more", () -> x.bytes(1, 1));
                int sum = x.checksum();
                Case.is("the BYTES are as they were", x.checksum(), sum);
                Case.is("read", x.read(), 2);
                Case.is("same", x.same(1, 2), true);
                Case.is("cut", x.cutBytes(19999), 20000);
                Case.noState("two bytes more", () -> x.bytes(0, 2));
                Case.is("one byte more", x.bytes(0, 1), 20000);
                Case.is("the BYTES", x.checksum(), sum);
            } else {
                int before = x.checksum();
                Case.noState("write", () -> x.write(1));
                Case.is("the BYTES are as they were", x.checksum(), before);
            }
            Case.is("errors", x.errors(), 0);
        }
    }

    /** A module that has 20000 bytes and so many more behind INLINE. */
    private static Codekiln long20000(int more) {
        int nops = 0;
        for (int step = 4096; step > 0; step /= 2) {
            Codekiln x = tuned(nops + step);
            x.pass(0, 0);
            nops = x.moduleIs(1, 8) <= 20000 + more ? nops + step : nops;
        }
        return tuned(nops);
    }

    private static Codekiln tuned(int nops) {
        int[] caller = code(0, times(48, 16, 0), 11);
        int[] codes = row(14, code(0, times(29, 1), 11));
        for (int k = 0; k < 12; k++) {
            codes = row(codes, caller);
        }
        Codekiln x = typed(whole(section(1, 1, 96, 0, 0), section(3, 14, times(14, 0)), section(10, codes, code(0, times(nops, 1), 11))));
        Case.is("read at " + x.fault(false), x.read(), 0);
        return x;
    }

    private static void theBytes() {
        Codekiln x = new Codekiln();
        long eight = 0x8182838485868788L;
        int at = 0;
        for (int many = 1; many <= 8; many++) {
            at += many;
            Case.is("bytes(.., " + many + ")", x.bytes(eight, many), at);
            for (int k = 0; k < many; k++) {
                Case.is("byte", x.byteAt(at - 1 - k), 0x88 - k);
            }
        }
        int sum = x.checksum();
        for (int many : new int[] {0, 9, -1, Integer.MIN_VALUE, Integer.MAX_VALUE}) {
            Case.noArgument("bytes(1, " + many + ")", () -> x.bytes(1, many));
            Case.is("as they were", x.checksum(), sum);
        }
        for (int index : new int[] {-1, 36, Integer.MIN_VALUE, Integer.MAX_VALUE}) {
            Case.is("byteAt(" + index + ")", x.byteAt(index), -1);
            Case.noIndex("setByte(" + index + ", 0)", () -> x.setByte(index, 0));
            Case.noIndex("setByte(" + index + ", 256)", () -> x.setByte(index, 256));
        }
        for (int value : new int[] {-1, 256, Integer.MIN_VALUE, Integer.MAX_VALUE}) {
            Case.noArgument("setByte(0, " + value + ")", () -> x.setByte(0, value));
            Case.noArgument("setByte(35, " + value + ")", () -> x.setByte(35, value));
        }
        Case.is("as they were", x.checksum(), sum);
        Case.is("setByte(35, 255)", x.setByte(35, 255), 0x88);
        Case.is("setByte(35, 0)", x.setByte(35, 0), 255);
        Case.is("setByte(35, 136)", x.setByte(35, 136), 0);
        Case.is("as they were", x.checksum(), sum);
        for (int many : new int[] {-1, 37, Integer.MIN_VALUE, Integer.MAX_VALUE}) {
            Case.noArgument("cutBytes(" + many + ")", () -> x.cutBytes(many));
        }
        Case.is("cutBytes(36)", x.cutBytes(36), 36);
        Case.is("as they were", x.checksum(), sum);
        Case.is("cutBytes(35)", x.cutBytes(35), 36);
        Case.is("the last one", x.byteAt(35), -1);
        Case.is("cutBytes(0)", x.cutBytes(0), 35);
        Case.is("cutBytes(0)", x.cutBytes(0), 0);
        Case.noArgument("cutBytes(1)", () -> x.cutBytes(1));
        Case.is("nothing", x.checksum(), 17);
    }

    /** same(): each thing that section 7 tells. */
    private static void sameInAll() {
        int[][] ones = {section(1, 2, 96, 0, 0, 96, 1, 127, 1, 127), section(3, 1, 0), section(4, 1, 112, 0, 3), section(5, 1, 1, 1, 2),
            section(6, 1, 127, 0, 65, 5, 11), section(7, 1, 1, "a", 0, 0), section(9, 1, 0, 65, 1, 11, 1, 0),
            section(10, 1, code(1, 1, 127, 65, 3, 26, 65, 0, 14, 1, 0, 0, 11)), section(11, 1, 0, 65, 9, 11, 2, 7, 8)};
        int[][] others = {section(1, 2, 96, 0, 0, 96, 1, 127, 1, 126), section(1, 3, 96, 0, 0, 96, 1, 127, 1, 127, 96, 0, 0), section(4, 1, 112, 0, 4),
            section(5, 1, 1, 2, 2), section(5, 1, 1, 1, 3), section(6, 1, 127, 1, 65, 5, 11), section(6, 1, 127, 0, 65, 6, 11),
            section(6, 1, 126, 0, 66, 5, 11), section(6, 0), section(7, 1, 1, "b", 0, 0), section(7, 1, 2, "aa", 0, 0), section(7, 0),
            section(9, 1, 0, 65, 0, 11, 1, 0), section(9, 1, 0, 65, 1, 11, 2, 0, 0), section(9, 2, 0, 65, 1, 11, 1, 0, 0, 65, 1, 11, 0),
            section(10, 1, code(1, 1, 126, 65, 3, 26, 65, 0, 14, 1, 0, 0, 11)), section(10, 1, code(1, 2, 127, 65, 3, 26, 65, 0, 14, 1, 0, 0, 11)),
            section(10, 1, code(1, 1, 127, 65, 4, 26, 65, 0, 14, 1, 0, 0, 11)), section(10, 1, code(1, 1, 127, 65, 3, 26, 65, 0, 14, 0, 0, 11)),
            section(10, 1, code(1, 1, 127, 65, 3, 26, 65, 0, 14, 1, 0, 0, 1, 11)), section(10, 1, code(1, 1, 127, 66, 3, 26, 65, 0, 14, 1, 0, 0, 11)),
            section(11, 1, 0, 65, 9, 11, 2, 7, 9), section(11, 1, 0, 65, 8, 11, 2, 7, 8), section(11, 1, 0, 65, 9, 11, 3, 7, 8, 0),
            section(11, 2, 0, 65, 9, 11, 1, 7, 0, 65, 10, 11, 1, 8), section(11, 0)};
        Codekiln first = typed(whole((Object[]) ones));
        Case.is("read", first.read(), 0);
        Case.is("read", first.read(), 1);
        Case.is("the same bytes", first.same(0, 1), true);
        for (int[] other : others) {
            Object[] mixed = new Object[ones.length];
            for (int k = 0; k < ones.length; k++) {
                mixed[k] = ones[k][0] == other[0] ? other : ones[k];
            }
            Codekiln x = typed(whole((Object[]) ones));
            x.read();
            Case.setBytes(x, whole(mixed));
            Case.is("read of another " + other[0] + " at " + x.fault(false), x.read(), 1);
            Case.is("same with another " + other[0], x.same(0, 1), false);
            Case.is("same with another " + other[0], x.same(1, 0), false);
            Case.is("same with itself", x.same(1, 1), true);
        }
        // As it is read: in more groups, and in more stretches, it is the same.
        Codekiln y = typed(whole((Object[]) ones));
        y.read();
        ones[7] = section(10, 1, code(2, 0, 126, 129, 0, 127, 65, 131, 0, 26, 65, 128, 128, 0, 14, 129, 0, 128, 0, 0, 11));
        Case.setBytes(y, whole((Object[]) ones));
        Case.is("read", y.read(), 1);
        Case.is("same in more groups", y.same(0, 1), true);
        Case.is("as long as written", y.moduleIs(0, 8), y.moduleIs(1, 8));
    }

    private static int[] bytesOf(Codekiln x) {
        ArrayList<Integer> all = new ArrayList<>();
        for (int k = 0; x.byteAt(k) != -1; k++) {
            all.add(x.byteAt(k));
        }
        return all.stream().mapToInt(k -> k).toArray();
    }

    private static int[] fewest(long number) {
        int many = 1;
        while (many < 10 && (number >> 7 * many - 1) != 0 && (number >> 7 * many - 1) != -1) {
            many++;
        }
        return groups(number, many);
    }

    /** All sections, some of them put in, those that may not lack as nothing. */
    private static int[] full(int[]... told) {
        int[] all = new int[0];
        for (int id = 1; id <= 11; id++) {
            int[] one = id == 4 || id == 5 || id == 8 ? new int[0] : section(id, 0);
            for (int[] section : told) {
                one = section[0] == id ? section : one;
            }
            all = row(all, one);
        }
        return whole(all);
    }

    /** What is written of bytes, and read again, and written again. */
    private static void writtenAs(String what, int[] due, int[] given) {
        Codekiln x = typed(given);
        Case.is("read of " + what, fault(x), "none");
        Case.is("moduleIs 8 of " + what, x.moduleIs(0, 8), due.length);
        Case.is("write of " + what, x.write(0), due.length);
        Case.is("bytes of " + what, java.util.Arrays.toString(bytesOf(x)), java.util.Arrays.toString(due));
        Case.is("read again", x.read(), 1);
        Case.is("the same", x.same(0, 1), true);
        Case.is("errors", x.errors(), 0);
    }

    /** A number is written in as few groups as needed, however it was read. */
    private static void fewestGroups() {
        int[] type = section(1, 1, 96, 0, 0);
        int[] own = section(3, 1, 0);
        int[] memory = section(5, 1, 1, 1, 8);
        for (int bit = 0; bit < 33; bit++) {
            for (long offset = (1L << bit) - 2; offset <= (1L << bit) + 1; offset++) {
                if (offset >= 0 && offset < 1L << 32) {
                    int[] due = full(type, own, memory, section(10, 1, code(0, 65, 0, 40, 2, number(offset), 26, 11)));
                    writtenAs("an offset " + offset, due, due);
                    writtenAs("an offset " + offset, due, full(type, own, memory, section(10, 1, code(0, 65, 0, 40, 2, groups(offset, 5), 26, 11))));
                }
            }
        }
        for (int bit = 0; bit < 64; bit++) {
            for (int more = -2; more < 2; more++) {
                for (int sign = -1; sign < 2; sign += 2) {
                    long one = bit == 63 && more < 0 ? Long.MAX_VALUE + more + 1 : sign * ((1L << bit) + more);
                    int[] due = full(type, own, section(6, 1, 126, 1, 66, fewest(one), 11), section(10, 1, code(0, 66, fewest(one), 26, 11)));
                    writtenAs("a LONG " + one, due, due);
                    writtenAs("a LONG " + one, due,
                        full(type, own, section(6, 1, 126, 1, 66, groups(one, 10), 11), section(10, 1, code(0, 66, groups(one, 10), 26, 11))));
                    if (one == (int) one) {
                        int[] word = full(type, own, section(6, 1, 127, 1, 65, fewest(one), 11), section(10, 1, code(0, 65, fewest(one), 26, 11)));
                        writtenAs("a word " + one, word, word);
                        writtenAs("a word " + one, word,
                            full(type, own, section(6, 1, 127, 1, 65, groups(one, 5), 11), section(10, 1, code(0, 65, groups(one, 5), 26, 11))));
                    }
                }
            }
        }
        for (int place : new int[] {0, 1, 63, 64, 65, 4094, 4095, 4096, 8190, 8191}) {
            int[] due = full(section(5, 1, 1, 8, 8), section(11, 1, 0, 65, fewest(place), 11, 1, 200));
            writtenAs("a place " + place, due, due);
            writtenAs("a place " + place, due, full(section(5, 1, 1, 8, 8), section(11, 1, 0, 65, groups(place, 5), 11, 129, 0, 200)));
        }
        for (int local : new int[] {0, 1, 63, 64, 127, 128, 129, 249}) {
            int[] due = full(type, own, section(10, 1, code(1, number(250), 127, 32, number(local), 26, 11)));
            writtenAs("a local " + local, due, due);
        }
        bad("a LONG global in 11 groups", section(6, 1, 126, 1, 66, HERE, groups(0, 11), 11));
        bad("a LONG global in 11 groups", section(6, 1, 126, 1, 66, HERE, groups(-1, 11), 11));
        bad("a word global in 6 groups", section(6, 1, 127, 1, 65, HERE, groups(-1, 6), 11));
        bad("a place in 6 groups", section(5, 1, 1, 8, 8), section(11, 1, 0, 65, HERE, groups(0, 6), 11, 0));
        bad("an entry in 6 groups", section(4, 1, 112, 0, 8), section(9, 1, 0, 65, HERE, groups(0, 6), 11, 0));
    }

    /** The size of a code, and of a section, where it needs one more group. */
    private static void sizesOfSections() {
        int[] type = section(1, 1, 96, 0, 0);
        for (int nops = 114; nops < 132; nops++) {
            int[] due = full(type, section(3, 1, 0), section(10, 1, code(0, times(nops, 1), 11)));
            writtenAs(nops + " nops", due, due);
        }
        for (int many : new int[] {8178, 8179, 8185, 8190, 8200, 12000, 16371, 16372, 16373, 16374, 16375, 16376, 16377, 16378, 16379, 16380, 16381, 19000}) {
            int[] codes = row(4);
            for (int k = 0; k < 4; k++) {
                codes = row(codes, code(0, times(many / 4 + (k < many % 4 ? 1 : 0), 1), 11));
            }
            int[] due = full(type, section(3, 4, 0, 0, 0, 0), section(10, codes));
            Codekiln x = typed(due);
            Case.is("read of " + many + " nops", fault(x), "none");
            Case.is("write of " + many + " nops", x.write(0), due.length);
            int sum = 17;
            for (int one : due) {
                sum = sum * 31 + one;
            }
            Case.is("sum of " + many + " nops", x.checksum(), sum);
        }
        for (int bytes : new int[] {119, 120, 121, 122, 123, 127, 128, 3999, 4000}) {
            int[] due = full(section(5, 1, 1, 8, 8), section(11, 1, 0, 65, 0, 11, number(bytes), times(bytes, 7)));
            writtenAs(bytes + " bytes of data", due, due);
        }
    }

    /** The second element, and data, is looked at as the first one is. */
    private static void secondOfTwo() {
        int[] ahead = row(TYPES, section(3, 1, 0), section(4, 1, 112, 0, 9));
        int[] codes = section(10, 1, 2, 0, 11);
        good("a second element up to the last entry", ahead, section(9, 2, 0, 65, 0, 11, 2, 0, 0, 0, 65, 6, 11, 3, 0, 0, 0), codes);
        wrong(9, "a second element beyond it", ahead, section(9, 2, 0, 65, 0, 11, 2, 0, 0, 0, 65, 7, 11, 3, 0, 0, 0), codes);
        wrong(9, "a first element beyond it", ahead, section(9, 2, 0, 65, 7, 11, 3, 0, 0, 0, 0, 65, 0, 11, 1, 0), codes);
        wrong(9, "a second element below 0", ahead, section(9, 2, 0, 65, 0, 11, 1, 0, 0, 65, 127, 11, 0), codes);
        wrong(9, "a second element's last function", ahead, section(9, 2, 0, 65, 0, 11, 1, 0, 0, 65, 2, 11, 2, 0, 1), codes);
        wrong(9, "a first element's last function", ahead, section(9, 2, 0, 65, 0, 11, 2, 0, 1, 0, 65, 2, 11, 1, 0), codes);
        int[] memory = section(5, 1, 1, 1, 1);
        good("a second data up to the last byte", memory, section(11, 2, 0, 65, 0, 11, 9, times(9, 1), 0, 65, groups(1022, 2), 11, 2, 5, 5));
        wrong(11, "a second data beyond it", memory, section(11, 2, 0, 65, 0, 11, 9, times(9, 1), 0, 65, groups(1023, 2), 11, 2, 5, 5));
        good("a short one behind a long one", memory, section(11, 2, 0, 65, groups(1015, 2), 11, 9, times(9, 1), 0, 65, groups(1023, 2), 11, 1, 5));
        wrong(11, "a first data beyond it", memory, section(11, 2, 0, 65, groups(1016, 2), 11, 9, times(9, 1), 0, 65, 0, 11, 1, 5));
        wrong(11, "a second data below 0", memory, section(11, 2, 0, 65, 0, 11, 9, times(9, 1), 0, 65, 127, 11, 0));
        wrong(7, "a second export", TYPES, section(3, 1, 0), section(7, 2, 1, "a", 0, 0, 1, "b", 0, 1), codes);
        wrong(3, "a second type", TYPES, section(3, 2, 0, 4), section(10, 2, 2, 0, 11, 2, 0, 11));
        good("the last type", TYPES, section(3, 2, 0, 3), section(10, 2, 2, 0, 11, code(0, 66, 0, 11)));
        wrong(10, "one code too many", TYPES, section(3, 1, 0), section(10, 2, 2, 0, 11, 2, 0, 11));
        wrong(10, "one code too few", TYPES, section(3, 2, 0, 0), section(10, 1, 2, 0, 11));
        bad("a wrong byte in a code too many", TYPES, section(3, 1, 0), section(10, 2, 2, 0, 11, 2, 0, HERE, 10));
    }

    /** Whether a global changes stands in what is written. */
    private static void notChangingOnes() {
        for (int changing = 0; changing < 2; changing++) {
            for (int sort = 126; sort < 128; sort++) {
                int[] global = section(6, 1, sort, changing, sort == 127 ? 65 : 66, 5, 11);
                int[] due = full(section(1, 1, 96, 0, 0), section(3, 1, 0), global, section(10, 1, code(0, 35, 0, 26, 11)));
                writtenAs("a global", due, due);
                int[] set = whole(section(1, 1, 96, 0, 0), section(3, 1, 0), global, section(10, 1, code(0, 35, 0, 36, 0, 11)));
                Case.is("one that is set", fault(typed(set)), changing == 1 ? "none" : "3 at 1");
            }
        }
    }

    private static void differ(String what, int[] one, int[] other) {
        Codekiln x = typed(one);
        Case.is("read of one, " + what, fault(x), "none");
        Case.setBytes(x, other);
        Case.is("read of the other, " + what + ", at " + x.fault(false), x.read(), 1);
        Case.is("same, " + what, x.same(0, 1), false);
        Case.is("same the other way, " + what, x.same(1, 0), false);
        Case.is("same as itself", x.same(0, 0) && x.same(1, 1), true);
    }

    /** The first and the last in each row count. */
    private static void sameInEachRow() {
        differ("a first parameter", whole(section(1, 1, 96, 3, 127, 127, 127, 0)), whole(section(1, 1, 96, 3, 126, 127, 127, 0)));
        differ("a last parameter", whole(section(1, 1, 96, 3, 127, 127, 127, 0)), whole(section(1, 1, 96, 3, 127, 127, 126, 0)));
        differ("a parameter more", whole(section(1, 1, 96, 2, 127, 127, 0)), whole(section(1, 1, 96, 3, 127, 127, 127, 0)));
        differ("a value or none", whole(section(1, 1, 96, 0, 0)), whole(section(1, 1, 96, 0, 1, 127)));
        differ("the first type", whole(section(1, 2, 96, 0, 0, 96, 0, 0)), whole(section(1, 2, 96, 0, 1, 126, 96, 0, 0)));
        differ("the last type", whole(section(1, 2, 96, 0, 0, 96, 0, 0)), whole(section(1, 2, 96, 0, 0, 96, 1, 126, 0)));
        int[] types = section(1, 4, 96, 0, 1, 127, 96, 1, 127, 0, 96, 0, 1, 127, 96, 1, 127, 0);
        int[] get = row(1, "h", 3, "get", 0, 0);
        int[] put = row(1, "h", 3, "put", 0, 1);
        differ("imports", whole(types, section(2, 1, get)), whole(types, section(2, 1, put)));
        differ("types of imports", whole(types, section(2, 1, get)), whole(types, section(2, 1, 1, "h", 3, "get", 0, 2)));
        differ("the last of 4 imports", whole(types, section(2, 4, get, get, get, get)), whole(types, section(2, 4, get, get, get, put)));
        differ("the type of the last of 4", whole(types, section(2, 4, get, get, get, put)), whole(types, section(2, 4, get, get, get, 1, "h", 3, "put", 0, 3)));
        differ("an import more", whole(types, section(2, 1, get)), whole(types, section(2, 2, get, get)));
        int[] own = section(3, 2, 0, 0);
        int[] codes = section(10, 2, 4, 0, 65, 1, 11, 4, 0, 65, 1, 11);
        differ("the type of the first", whole(types, own, codes), whole(types, section(3, 2, 2, 0), codes));
        differ("the type of the last", whole(types, own, codes), whole(types, section(3, 2, 0, 2), codes));
        differ("a table of none", whole(types), whole(types, section(4, 1, 112, 0, 0)));
        differ("a memory of none", whole(types), whole(types, section(5, 1, 1, 0, 0)));
        int[] globals = row(127, 1, 65, 1, 11, 126, 0, 66, 1, 11, 127, 0, 65, 1, 11);
        for (int at : new int[] {1, 3, 6, 8, 11, 13}) {
            int[] others = globals.clone();
            others[at] = at % 5 == 1 ? 1 - others[at] : 2;
            differ("globals at " + at, whole(section(6, 3, globals)), whole(section(6, 3, others)));
        }
        differ("a high bit of a global", whole(section(6, 1, 126, 0, 66, groups(1L << 40, 6), 11)), whole(section(6, 1, 126, 0, 66, 0, 11)));
        int[] exports = row(2, "ab", 0, 0, 1, "c", 0, 0);
        for (int at : new int[] {1, 2, 4, 6, 8}) {
            int[] others = exports.clone();
            others[at] = others[at] == 0 ? 1 : 'z';
            differ("exports at " + at, whole(types, own, section(7, 2, exports), codes), whole(types, own, section(7, 2, others), codes));
        }
        differ("an export more", whole(types, own, section(7, 1, 1, "a", 0, 0), codes), whole(types, own, section(7, 2, 1, "a", 0, 0, 1, "b", 0, 0), codes));
        int[] table = section(4, 1, 112, 0, 9);
        int[] elements = row(0, 65, 1, 11, 2, 0, 0, 0, 65, 4, 11, 2, 0, 0);
        for (int at : new int[] {2, 5, 6, 9, 12, 13}) {
            int[] others = elements.clone();
            others[at] = others[at] == 0 ? 1 : 5;
            differ("elements at " + at, whole(types, own, table, section(9, 2, elements), codes), whole(types, own, table, section(9, 2, others), codes));
        }
        differ("elements cut elsewhere", whole(types, own, table, section(9, 2, 0, 65, 1, 11, 2, 0, 0, 0, 65, 3, 11, 1, 0), codes),
            whole(types, own, table, section(9, 2, 0, 65, 1, 11, 1, 0, 0, 65, 3, 11, 2, 0, 0), codes));
        int[] memory = section(5, 1, 1, 1, 1);
        int[] datas = row(0, 65, 1, 11, 2, 7, 8, 0, 65, 4, 11, 2, 7, 8);
        for (int at : new int[] {2, 5, 6, 9, 12, 13}) {
            int[] others = datas.clone();
            others[at]++;
            differ("data at " + at, whole(memory, section(11, 2, datas)), whole(memory, section(11, 2, others)));
        }
        differ("data cut elsewhere", whole(memory, section(11, 2, 0, 65, 1, 11, 2, 7, 8, 0, 65, 3, 11, 1, 9)),
            whole(memory, section(11, 2, 0, 65, 1, 11, 1, 7, 0, 65, 3, 11, 2, 8, 9)));
        sameInstructions(section(1, 2, 96, 0, 0, 96, 0, 0), memory);
    }

    private static void sameInstructions(int[] types, int[] memory) {
        int[] own = row(section(3, 2, 0, 0), section(4, 1, 112, 0, 3), memory, section(6, 2, 127, 1, 65, 0, 11, 127, 1, 65, 0, 11));
        int[] one = row(3, 1, 127, 1, 126, 2, 127, 2, 64, 2, 64, 65, 5, 14, 2, 0, 1, 2, 11, 11, 3, 64, 11, 65, 1, 4, 64, 5, 11, 65, 0, 40, 2, 7, 26, 66, 9, 26, 32, 0, 26,
            32, 2, 33, 3, 35, 0, 36, 0, 65, 0, 17, 0, 0, 16, 1, 65, 0, 13, 0, 11);
        int[][] changes = {{2, 126}, {4, 127}, {5, 1}, {7, 3}, {9, 3}, {12, 4}, {15, 1}, {16, 0}, {17, 1}, {20, 2}, {24, 2}, {33, 8}, {36, 8}, {39, 2}, {42, 3}, {44, 2}, {46, 1}, {48, 1},
            {50, 1}, {52, 1}, {55, 0}, {57, 1}, {58, 12}};
        int[] due = whole(types, own, section(10, 2, code(one), 2, 0, 11));
        Case.is("read", fault(typed(due)), "none");
        int tried = 0;
        for (int[] change : changes) {
            int[] other = one.clone();
            other[change[0]] = change[1];
            int[] bytes = whole(types, own, section(10, 2, code(other), 2, 0, 11));
            if (fault(typed(bytes)).equals("none")) {
                tried++;
                differ("instructions at " + change[0], due, bytes);
            }
        }
        Case.is("how many of these are VALID", tried > 15, true);
        differ("a last code", due, whole(types, own, section(10, 2, code(one), 3, 0, 1, 11)));
        differ("a nop more", due, whole(types, own, section(10, 2, code(java.util.Arrays.copyOf(one, one.length - 1), 1, 11), 2, 0, 11)));
    }
}
