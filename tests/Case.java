import java.util.Arrays;

/** What the tests share: it compares answers, types texts, and lists the code of modules. */
final class Case {
    interface Call {
        void go();
    }

    private static int wrong = 0;
    private static int checks = 0;

    private Case() {
    }

    static void is(String what, long got, long want) {
        checks++;
        if (got != want) {
            wrong++;
            System.out.println(what + " answered " + got + ", due is " + want);
        }
    }

    static void is(String what, boolean got, boolean want) {
        is(what, got ? 1 : 0, want ? 1 : 0);
    }

    static void is(String what, String got, String want) {
        checks++;
        if (!got.equals(want)) {
            wrong++;
            System.out.println(what + "\n  answered " + got + "\n  due is   " + want);
        }
    }

    static void refuses(String what, Class<? extends RuntimeException> due, Call call) {
        checks++;
        try {
            call.go();
            wrong++;
            System.out.println(what + " threw nothing, due is " + due.getSimpleName());
        } catch (RuntimeException e) {
            if (e.getClass() != due) {
                wrong++;
                System.out.println(what + " threw " + e + ", due is " + due.getSimpleName());
            }
        }
    }

    static void noIndex(String what, Call call) {
        refuses(what, IndexOutOfBoundsException.class, call);
    }

    static void noArgument(String what, Call call) {
        refuses(what, IllegalArgumentException.class, call);
    }

    static void noState(String what, Call call) {
        refuses(what, IllegalStateException.class, call);
    }

    static void noElement(String what, Call call) {
        refuses(what, java.util.NoSuchElementException.class, call);
    }

    static void end() {
        System.out.println(checks + " checks, " + wrong + " wrong");
        if (wrong != 0) {
            System.exit(1);
        }
    }

    /** Puts a text behind the text, 32 bytes a call. */
    static void put(Codekiln kiln, String text) {
        for (int from = 0; from < text.length(); from += 32) {
            long[] four = new long[4];
            for (int k = 0; k < 32 && from + k < text.length(); k++) {
                four[k / 8] = four[k / 8] << 8 | text.charAt(from + k) & 255;
            }
            kiln.type(four[0], four[1], four[2], four[3]);
        }
    }

    /** A kiln with a text as its program 0. */
    static Codekiln loaded(String text) {
        Codekiln kiln = new Codekiln();
        put(kiln, text);
        if (kiln.faultKind() != 0) {
            is("fault in " + text + " at " + kiln.faultPlace(), kiln.faultKind(), 0);
        }
        kiln.load();
        return kiln;
    }

    /** A kiln with a text as its program 0, and its module 0. */
    static Codekiln made(String text) {
        Codekiln kiln = loaded(text);
        kiln.make(0);
        return kiln;
    }

    /** The fault of a text as "kind at place"; "none" without one. */
    static String fault(String text) {
        Codekiln kiln = new Codekiln();
        put(kiln, text);
        int kind = kiln.faultKind();
        int place = kiln.faultPlace();
        return kind == 0 && place == Codekiln.NONE ? "none" : kind + " at " + place;
    }

    /** A text with one @ just ahead of its fault. */
    static void faultAt(int kind, String marked) {
        int at = marked.indexOf('@');
        String text = marked.substring(0, at) + marked.substring(at + 1);
        is("fault of " + text, fault(text), kind + " at " + at);
    }

    static void good(String text) {
        is("fault of " + text, fault(text), "none");
    }

    /** The instructions of an own function: each byte, and, if something stands with it, that behind a dot. */
    static String code(Codekiln kiln, int module, int function) {
        StringBuilder all = new StringBuilder();
        int many = kiln.functionAt(module, function, 3);
        for (int i = 0; i < many; i++) {
            long op = kiln.opAt(module, function, i, 0);
            long with = kiln.opAt(module, function, i, 1);
            all.append(i == 0 ? "" : " ").append(op);
            if (op == 14) {
                all.append(".");
                for (int k = 0; k <= with; k++) {
                    all.append(k == 0 ? "" : ",").append(kiln.targetAt(module, function, i, k));
                }
            } else if (with != Codekiln.NONE || op == 65 || op == 66) {
                all.append(".").append(with);
            }
        }
        return all.toString();
    }

    /** The SORTS of all locals of an own function. */
    static String locals(Codekiln kiln, int module, int function) {
        int many = kiln.functionAt(module, function, 1) + kiln.functionAt(module, function, 2);
        int[] sorts = new int[many];
        for (int k = 0; k < many; k++) {
            sorts[k] = kiln.localSort(module, function, k);
        }
        return Arrays.toString(sorts);
    }

    /** The code of the function 0 of a text. */
    static void codeOf(String text, String want) {
        is("code of " + text, code(made(text), 0, 2), want);
    }

    /** The value of the function 0 of a text. */
    static void value(String text, long a, long b, long want) {
        Codekiln kiln = loaded(text);
        is("end of " + text, kiln.mean(0, 0, a, b, 0), 0);
        is("value of " + text, kiln.meant(0), want);
        for (int bits = 0; bits < 128; bits += 127) {
            is("both ways of " + text, kiln.agree(0, 0, bits, a, b, 0), 1);
        }
    }

    static void value(String text, long want) {
        value(text, 0, 0, want);
    }

    /** How the function 0 of a text ends by its meaning. */
    static void ends(String text, long a, long want) {
        Codekiln kiln = loaded(text);
        is("end of " + text, kiln.mean(0, 0, a, 0, 0), want);
        is("value of " + text, kiln.meant(0), 0);
        is("both ways of " + text, kiln.agree(0, 0, 127, a, 0, 0), want == 4 ? 2 : 1);
    }

    static void setBytes(Codekiln kiln, int... bytes) {
        kiln.cutBytes(0);
        for (int b : bytes) {
            kiln.bytes(b, 1);
        }
    }

    /** Puts bytes behind the BYTES, 8 a call. */
    static void addAll(Codekiln kiln, byte[] bytes) {
        for (int from = 0; from < bytes.length; from += 8) {
            int many = Math.min(8, bytes.length - from);
            long eight = 0;
            for (int k = 0; k < many; k++) {
                eight = eight << 8 | bytes[from + k] & 255;
            }
            kiln.bytes(eight, many);
        }
    }

    /** Bytes of a module: the head, then, for each row, a section with its size put in. */
    static int[] module(int[]... sections) {
        int[] all = {0, 97, 115, 109, 1, 0, 0, 0};
        for (int[] section : sections) {
            int from = all.length;
            int size = section.length - 1;
            boolean isLong = size > 127;
            all = Arrays.copyOf(all, from + section.length + (isLong ? 2 : 1));
            all[from] = section[0];
            all[from + 1] = isLong ? size & 127 | 128 : size;
            if (isLong) {
                all[from + 2] = size >> 7;
            }
            System.arraycopy(section, 1, all, from + (isLong ? 3 : 2), size);
        }
        return all;
    }

    /** A section of one code without locals. */
    static int[] codeSection(int... instructions) {
        int[] section = new int[instructions.length + 4];
        section[0] = 10;
        section[1] = 1;
        section[2] = instructions.length + 1;
        System.arraycopy(instructions, 0, section, 4, instructions.length);
        return section;
    }

    /** The fault of the bytes of a module as "kind at place"; "none" without one. */
    static String readFault(int... bytes) {
        Codekiln kiln = new Codekiln();
        setBytes(kiln, bytes);
        int got = kiln.read();
        int kind = kiln.fault(true);
        int place = kiln.fault(false);
        is("read() beside fault()", got, kind == 0 ? 0 : Codekiln.NONE);
        return kind == 0 && place == Codekiln.NONE ? "none" : kind + " at " + place;
    }
}
