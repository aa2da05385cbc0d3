import java.util.NoSuchElementException;

/**
 * Each call of the face: the arguments at the edge of what it takes, which exception is the first one, and that a call
 * that throws changes nothing. Beside the kiln that refuses stands a twin that was asked nothing.
 */
public final class CallEdgeTest {
    private static final int MIN = Integer.MIN_VALUE;
    private static final int MAX = Integer.MAX_VALUE;
    private static final Class<? extends RuntimeException> INDEX = IndexOutOfBoundsException.class;
    private static final Class<? extends RuntimeException> ARGUMENT = IllegalArgumentException.class;
    private static final Class<? extends RuntimeException> STATE = IllegalStateException.class;
    private static final Class<? extends RuntimeException> ELEMENT = NoSuchElementException.class;

    /** How a kiln comes to be as a test wants it. */
    private interface Kiln {
        Codekiln made();
    }

    private interface Ask {
        void of(Codekiln x);
    }

    public static void main(String[] args) {
        texts();
        programs();
        functionsAndVariables();
        meaning();
        making();
        modules();
        instructions();
        bytes();
        runs();
        questionsOfRuns();
        secondWays();
        questionsChangeNothing();
        Case.end();
    }

    private static final String TEXT = "int a=5;char b[3]=\"xy\";int f(int c,char d){int e[2];e[0]=c;put(e[0]);return c+get();}"
        + "int g(int*p){return *p;}int h(int c,int d,int e,int i){return c;}int k(int n){switch(n){case 1:return 5;case 2:return 6;}return 8/n;}"
        + "void l(int c,int d,int e){put(c);}";

    /** Two programs, three modules, the BYTES of another one, a latest fault, two runs, an INPUT, a text. */
    private static Codekiln rich() {
        Codekiln x = Case.loaded(TEXT);
        x.piece(1);
        x.load();
        x.feed(3);
        x.feed(-4);
        x.mean(0, 0, 7, 8, 0);
        x.make(0);
        x.pass(0, 1);
        x.make(1);
        Case.setBytes(x, 0, 97, 115, 109, 1, 0, 0, 1);
        x.read();
        x.write(2);
        x.begin(0, 0, 4, 5, 6);
        x.step(0, 9);
        x.begin(1, 3, 0, 0, 0);
        x.step(1, 100);
        Case.put(x, "int m;int n(){return m}");
        return x;
    }

    private static Codekiln full() {
        Codekiln x = rich();
        for (int k = 3; k < 12; k++) {
            x.make(k % 2);
        }
        for (int k = 2; k < 6; k++) {
            x.begin(0, 4, k, 0, 0);
        }
        for (int k = 2; k < 40; k++) {
            x.feed(k);
        }
        return x;
    }

    private static Codekiln sixPrograms() {
        Codekiln x = new Codekiln();
        for (int k = 0; k < 6; k++) {
            x.piece(k);
            x.load();
        }
        x.piece(7);
        return x;
    }

    private static Codekiln longText() {
        Codekiln x = rich();
        x.clearText();
        Case.put(x, "int m;" + " ".repeat(1193));
        return x;
    }

    private static Codekiln fullText() {
        Codekiln x = longText();
        x.type(32, 0, 0, 0);
        return x;
    }

    /** All that one may ask, then all that one may empty. */
    private static String told(Codekiln x) {
        StringBuilder all = new StringBuilder();
        all.append(x.type(0, 0, 0, 0)).append(' ').append(x.faultKind()).append(' ').append(x.faultPlace());
        for (int p = 0; p < 6 && has(x, p, 0); p++) {
            all.append("\nprogram ").append(x.programIs(p, 0)).append(' ').append(x.programIs(p, 1)).append(' ').append(x.programIs(p, 3));
        }
        all.append("\nmeant");
        for (int what = 0; what < 7; what++) {
            all.append(' ').append(x.meant(what));
        }
        all.append(' ').append(x.meantByte(4088));
        for (int m = 0; m < 12 && has(x, m, 1); m++) {
            all.append("\nmodule ").append(x.moduleIs(m, 8)).append(' ').append(x.moduleIs(m, 9)).append(' ').append(x.moduleIs(m, 12));
        }
        all.append("\nbytes ").append(x.checksum()).append(' ').append(x.fault(true)).append(' ').append(x.fault(false));
        for (int r = 0; r < 6 && has(x, r, 2); r++) {
            all.append("\nrun");
            for (int what = 0; what < 12; what++) {
                all.append(' ').append(x.runAt(r, what));
            }
        }
        all.append("\nmean ").append(x.meanSteps()).append(' ').append(x.errors());
        all.append("\nempty ").append(x.clearText()).append(' ').append(x.cutBytes(0)).append(' ').append(x.clearInput()).append(' ')
            .append(x.clearModules());
        return all.toString();
    }

    private static boolean has(Codekiln x, int number, int kind) {
        try {
            if (kind == 0) {
                x.programIs(number, 0);
            } else if (kind == 1) {
                x.moduleIs(number, 0);
            } else {
                x.runAt(number, 0);
            }
            return true;
        } catch (IndexOutOfBoundsException e) {
            return false;
        }
    }

    private static void refuses(Kiln kiln, Class<? extends RuntimeException> due, String what, Ask ask) {
        Codekiln x = kiln.made();
        Case.refuses(what, due, () -> ask.of(x));
        Case.is("what is there behind " + what, told(x), told(kiln.made()));
    }

    private static void index(String what, Ask ask) {
        refuses(CallEdgeTest::rich, INDEX, what, ask);
    }

    private static void argument(String what, Ask ask) {
        refuses(CallEdgeTest::rich, ARGUMENT, what, ask);
    }

    private static void state(String what, Ask ask) {
        refuses(CallEdgeTest::rich, STATE, what, ask);
    }

    private static void element(String what, Ask ask) {
        refuses(CallEdgeTest::rich, ELEMENT, what, ask);
    }

    private static int[] beyond(int count) {
        return new int[] {-1, count, MIN, MAX};
    }

    private static void texts() {
        refuses(CallEdgeTest::longText, STATE, "type of two at 1199", x -> x.type(0x2020L, 0, 0, 0));
        refuses(CallEdgeTest::longText, STATE, "type of two at 1199", x -> x.type(32, 0, 0, 32));
        refuses(CallEdgeTest::longText, STATE, "type of 32 at 1199", x -> x.type(-1, -1, -1, -1));
        refuses(CallEdgeTest::fullText, STATE, "type of one at 1200", x -> x.type(0, 0, 1L << 56, 0));
        refuses(CallEdgeTest::fullText, STATE, "piece at 1200", x -> x.piece(7));
        Case.is("type of one at 1199", longText().type(0, 32, 0, 0), 1200);
        Case.is("type of none at 1200", fullText().type(0, 0, 0, 0), 1200);
        for (int which : beyond(8)) {
            argument("piece(" + which + ")", x -> x.piece(which));
            refuses(CallEdgeTest::fullText, ARGUMENT, "piece(" + which + ") at 1200", x -> x.piece(which));
        }
        state("load of a fault", Codekiln::load);
        refuses(CallEdgeTest::sixPrograms, STATE, "load beside 6 programs", Codekiln::load);
        String[] faults = {"int", "int f();", "int a=\"b\";"};
        for (int k = 0; k < 3; k++) {
            String text = faults[k];
            Kiln kiln = () -> {
                Codekiln x = new Codekiln();
                Case.put(x, text);
                return x;
            };
            Case.is("kind of " + text, kiln.made().faultKind(), k + 1);
            refuses(kiln, STATE, "load of " + text, Codekiln::load);
        }
        Codekiln x = sixPrograms();
        Case.is("text beside 6 programs", x.clearText(), 126);
        Case.noState("load of nothing beside 6 programs", x::load);
        Case.is("the 6th program", x.programIs(5, 0), 1);
        Codekiln y = new Codekiln();
        Case.is("load of nothing", y.load(), 0);
        Case.is("load of nothing", y.load(), 1);
        Case.is("functions", y.programIs(1, 0), 0);
    }

    private static void programs() {
        for (int p : beyond(2)) {
            for (int what : new int[] {0, 3, 4, -1}) {
                index("programIs(" + p + ", " + what + ")", x -> x.programIs(p, what));
                index("functionIs(" + p + ", 0, " + what + ")", x -> x.functionIs(p, 0, what));
                index("variableIs(" + p + ", 0, 0, " + what + ")", x -> x.variableIs(p, 0, 0, what));
                index("globalIs(" + p + ", 0, " + what + ")", x -> x.globalIs(p, 0, what));
            }
            index("firstByte(" + p + ", 0)", x -> x.firstByte(p, 0));
            index("firstByte(" + p + ", -1)", x -> x.firstByte(p, -1));
            index("mean(" + p + ", 0)", x -> x.mean(p, 0, 1, 2, 3));
            index("make(" + p + ")", x -> x.make(p));
            refuses(CallEdgeTest::full, INDEX, "make(" + p + ") beside 12", x -> x.make(p));
            index("agree(" + p + ", 0)", x -> x.agree(p, 0, 0, 1, 2, 3));
            index("agree(" + p + ", 0) by 128", x -> x.agree(p, 0, 128, 1, 2, 3));
        }
        for (int what : beyond(4)) {
            argument("programIs(0, " + what + ")", x -> x.programIs(0, what));
            argument("programIs(1, " + what + ")", x -> x.programIs(1, what));
        }
        Codekiln x = rich();
        int[][] due = {{5, 2, 1, 7}, {1, 0, 0, 0}};
        for (int p = 0; p < 2; p++) {
            for (int what = 0; what < 4; what++) {
                Case.is("programIs(" + p + ", " + what + ")", x.programIs(p, what), due[p][what]);
            }
        }
        for (int place : beyond(4096)) {
            argument("firstByte(0, " + place + ")", y -> y.firstByte(0, place));
        }
        Case.is("firstByte(0, 0)", x.firstByte(0, 0), 0);
        Case.is("firstByte(0, 16)", x.firstByte(0, 16), 5);
        Case.is("firstByte(0, 22)", x.firstByte(0, 22), 0);
        Case.is("firstByte(0, 4095)", x.firstByte(0, 4095), 0);
    }

    private static void functionsAndVariables() {
        int[] functions = {5, 1};
        for (int p = 0; p < 2; p++) {
            int program = p;
            for (int f : beyond(functions[p])) {
                index("functionIs(.., " + f + ", 0)", x -> x.functionIs(program, f, 0));
                index("functionIs(.., " + f + ", 9)", x -> x.functionIs(program, f, 9));
                index("variableIs(.., " + f + ", 0, 0)", x -> x.variableIs(program, f, 0, 0));
                index("variableIs(.., " + f + ", 0, 9)", x -> x.variableIs(program, f, 0, 9));
                index("mean(.., " + f + ")", x -> x.mean(program, f, 1, 2, 3));
                index("agree(.., " + f + ")", x -> x.agree(program, f, 0, 1, 2, 3));
                index("agree(.., " + f + ") by -1", x -> x.agree(program, f, -1, 1, 2, 3));
            }
        }
        int[] variables = {3, 1, 4, 1, 3};
        Codekiln one = rich();
        for (int f = 0; f < 5; f++) {
            int function = f;
            for (int v : beyond(variables[f])) {
                index("variableIs(0, " + f + ", " + v + ", 0)", x -> x.variableIs(0, function, v, 0));
                index("variableIs(0, " + f + ", " + v + ", 3)", x -> x.variableIs(0, function, v, 3));
            }
            Case.is("the last one", one.variableIs(0, f, variables[f] - 1, 0) > 0, true);
            for (int what : beyond(6)) {
                argument("functionIs(0, " + f + ", " + what + ")", x -> x.functionIs(0, function, what));
            }
            for (int what : beyond(3)) {
                argument("variableIs(0, " + f + ", 0, " + what + ")", x -> x.variableIs(0, function, 0, what));
            }
        }
        for (int g : beyond(2)) {
            index("globalIs(0, " + g + ", 0)", x -> x.globalIs(0, g, 0));
            index("globalIs(0, " + g + ", 3)", x -> x.globalIs(0, g, 3));
        }
        index("globalIs(1, 0, 0)", x -> x.globalIs(1, 0, 0));
        for (int what : beyond(3)) {
            argument("globalIs(0, 0, " + what + ")", x -> x.globalIs(0, 0, what));
            argument("globalIs(0, 1, " + what + ")", x -> x.globalIs(0, 1, what));
        }
        Case.is("globalIs(0, 1, 2)", one.globalIs(0, 1, 2), 20);
        Case.is("functionIs(0, 4, 5)", one.functionIs(0, 4, 5), 1);
    }

    private static void meaning() {
        refuses(CallEdgeTest::full, STATE, "a 41st number", x -> x.feed(1));
        Codekiln x = rich();
        for (int k = 2; k < 40; k++) {
            Case.is("feed", x.feed(k), k + 1);
        }
        Case.is("clearInput", x.clearInput(), 40);
        state("mean of a pointer", y -> y.mean(0, 1, 0, 0, 0));
        state("mean of 4 parameters", y -> y.mean(0, 2, 0, 0, 0));
        Case.is("mean of 3 parameters", x.mean(0, 4, 9, 0, 0), 0);
        for (int what : beyond(7)) {
            argument("meant(" + what + ")", y -> y.meant(what));
        }
        for (int place : beyond(4096)) {
            argument("meantByte(" + place + ")", y -> y.meantByte(place));
        }
        for (int index : beyond(1)) {
            element("out(" + index + ")", y -> y.out(index));
        }
        Case.is("out(0)", x.out(0), 9);
        Case.is("meantByte(0)", x.meantByte(0), 0);
        Case.is("meantByte(4095)", x.meantByte(4095), 0);
    }

    private static void making() {
        for (int p = 0; p < 2; p++) {
            int program = p;
            refuses(CallEdgeTest::full, STATE, "a 13th module", x -> x.make(program));
        }
        for (int m : beyond(3)) {
            for (int which : new int[] {0, 6, 7, -1}) {
                index("pass(" + m + ", " + which + ")", x -> x.pass(m, which));
                index("isSteady(" + m + ", " + which + ")", x -> x.isSteady(m, which));
            }
            for (int bits : new int[] {0, 127, 128, -1}) {
                index("passes(" + m + ", " + bits + ")", x -> x.passes(m, bits));
            }
        }
        for (int m : beyond(12)) {
            refuses(CallEdgeTest::full, INDEX, "pass(" + m + ", 9) beside 12", x -> x.pass(m, 9));
            refuses(CallEdgeTest::full, INDEX, "passes(" + m + ", 999) beside 12", x -> x.passes(m, 999));
        }
        for (int which : beyond(7)) {
            argument("pass(0, " + which + ")", x -> x.pass(0, which));
            argument("isSteady(0, " + which + ")", x -> x.isSteady(0, which));
            refuses(CallEdgeTest::full, ARGUMENT, "pass(0, " + which + ") beside 12", x -> x.pass(0, which));
        }
        for (int bits : beyond(128)) {
            argument("passes(0, " + bits + ")", x -> x.passes(0, bits));
            refuses(CallEdgeTest::full, ARGUMENT, "passes(0, " + bits + ") beside 12", x -> x.passes(0, bits));
        }
        for (int which = 0; which < 7; which++) {
            int one = which;
            refuses(CallEdgeTest::full, STATE, "pass(11, " + which + ") beside 12", x -> x.pass(11, one));
            Case.is("isSteady(11, " + which + ") beside 12", full().isSteady(11, which), true);
        }
        refuses(CallEdgeTest::full, STATE, "passes(0, 0) beside 12", x -> x.passes(0, 0));
        refuses(CallEdgeTest::full, STATE, "passes(0, 127) beside 12", x -> x.passes(0, 127));
        refuses(CallEdgeTest::full, STATE, "read beside 12", Codekiln::read);
        Codekiln x = full();
        Case.is("clearModules", x.clearModules(), 12);
        for (int k = 0; k < 12; k++) {
            Case.is("the last of 12", k % 4 == 0 ? x.make(1) : k % 4 == 1 ? x.pass(0, 0) : k % 4 == 2 ? x.passes(0, 127) : x.read(), k);
        }
        Case.noState("a 13th", x::read);
    }

    private static void modules() {
        for (int m : beyond(3)) {
            for (int what : new int[] {0, 13, 14, -1}) {
                index("moduleIs(" + m + ", " + what + ")", x -> x.moduleIs(m, what));
                index("functionAt(" + m + ", 0, " + what + ")", x -> x.functionAt(m, 0, what));
                index("opAt(" + m + ", 2, 0, " + what + ")", x -> x.opAt(m, 2, 0, what));
            }
            index("localSort(" + m + ", 2, 0)", x -> x.localSort(m, 2, 0));
            index("targetAt(" + m + ", 2, 0, 0)", x -> x.targetAt(m, 2, 0, 0));
            index("targetAt(" + m + ", 2, 0, -1)", x -> x.targetAt(m, 2, 0, -1));
            index("countOf(" + m + ", 0)", x -> x.countOf(m, 0));
            index("countOf(" + m + ", 256)", x -> x.countOf(m, 256));
            index("write(" + m + ")", x -> x.write(m));
            index("same(" + m + ", 0)", x -> x.same(m, 0));
            index("same(0, " + m + ")", x -> x.same(0, m));
            index("shortness(" + m + ", 0)", x -> x.shortness(m, 0));
            index("shortness(0, " + m + ")", x -> x.shortness(0, m));
            index("begin(" + m + ", 0)", x -> x.begin(m, 0, 1, 2, 3));
            index("alike(" + m + ", 0)", x -> x.alike(m, 0, 0, 1, 2, 3));
            index("alike(" + m + ", 0) by 128", x -> x.alike(m, 0, 128, 1, 2, 3));
            refuses(CallEdgeTest::full, INDEX, "begin(..) beside 6", x -> x.begin(m < 0 ? m : 12, 0, 1, 2, 3));
        }
        for (int what : beyond(14)) {
            argument("moduleIs(0, " + what + ")", x -> x.moduleIs(0, what));
        }
        for (int code : beyond(256)) {
            argument("countOf(0, " + code + ")", x -> x.countOf(0, code));
        }
        Codekiln x = rich();
        Case.is("countOf(0, 255)", x.countOf(0, 255), 0);
        Case.is("countOf(0, 0)", x.countOf(0, 0), 0);
        Case.is("countOf(0, 11)", x.countOf(0, 11) > 5, true);
        Case.is("moduleIs(2, 13)", x.moduleIs(2, 13), 1);
        Case.is("same(2, 2)", x.same(2, 2), true);
    }

    private static void instructions() {
        for (int f : beyond(7)) {
            for (int what : new int[] {0, 4, 5, -1}) {
                index("functionAt(0, " + f + ", " + what + ")", x -> x.functionAt(0, f, what));
                index("opAt(0, " + f + ", 0, " + what + ")", x -> x.opAt(0, f, 0, what));
            }
            index("localSort(0, " + f + ", 0)", x -> x.localSort(0, f, 0));
            index("targetAt(0, " + f + ", 0, 0)", x -> x.targetAt(0, f, 0, 0));
        }
        for (int f = 0; f < 2; f++) {
            int imported = f;
            index("localSort of an import", x -> x.localSort(0, imported, 0));
            index("opAt of an import", x -> x.opAt(0, imported, 0, 0));
            index("targetAt of an import", x -> x.targetAt(0, imported, 0, 0));
        }
        for (int what : beyond(5)) {
            argument("functionAt(0, 0, " + what + ")", x -> x.functionAt(0, 0, what));
            argument("functionAt(0, 6, " + what + ")", x -> x.functionAt(0, 6, what));
        }
        Codekiln x = rich();
        int many = x.functionAt(0, 5, 3);
        for (int i : beyond(many)) {
            index("opAt(0, 5, " + i + ", 0)", y -> y.opAt(0, 5, i, 0));
            index("opAt(0, 5, " + i + ", 2)", y -> y.opAt(0, 5, i, 2));
            index("targetAt(0, 5, " + i + ", 0)", y -> y.targetAt(0, 5, i, 0));
        }
        for (int what : beyond(2)) {
            argument("opAt(0, 5, 0, " + what + ")", y -> y.opAt(0, 5, 0, what));
            argument("opAt(0, 5, last, " + what + ")", y -> y.opAt(0, 5, many - 1, what));
        }
        Case.is("the last one", x.opAt(0, 5, many - 1, 0), 11);
        Case.is("the first one", x.opAt(0, 5, 0, 0), 32);
        int table = 0;
        while (x.opAt(0, 5, table, 0) != 14) {
            table++;
        }
        int at = table;
        for (int place : new int[] {-1, 3, MIN, MAX}) {
            element("targetAt(0, 5, " + at + ", " + place + ")", y -> y.targetAt(0, 5, at, place));
        }
        element("targetAt of no br_table", y -> y.targetAt(0, 5, 0, 0));
        element("targetAt of no br_table", y -> y.targetAt(0, 5, at - 1, 0));
        Case.is("the last place", x.targetAt(0, 5, at, 2), 2);
        Case.is("places", x.opAt(0, 5, at, 1), 2);
        int locals = x.functionAt(0, 2, 1) + x.functionAt(0, 2, 2);
        for (int local : beyond(locals)) {
            index("localSort(0, 2, " + local + ")", y -> y.localSort(0, 2, local));
        }
        Case.is("the last local", x.localSort(0, 2, locals - 1), 127);
    }

    private static Codekiln manyBytes() {
        Codekiln x = rich();
        x.cutBytes(0);
        byte[] all = new byte[3000];
        Case.addAll(x, all);
        return x;
    }

    private static void bytes() {
        for (int many : new int[] {0, 9, -1, MIN, MAX}) {
            argument("bytes(5, " + many + ")", x -> x.bytes(5, many));
        }
        Codekiln x = rich();
        int count = x.moduleIs(2, 8);
        for (int index : beyond(count)) {
            index("setByte(" + index + ", 0)", y -> y.setByte(index, 0));
            index("setByte(" + index + ", 256)", y -> y.setByte(index, 256));
            Case.is("byteAt(" + index + ")", x.byteAt(index), -1);
        }
        for (int value : beyond(256)) {
            argument("setByte(0, " + value + ")", y -> y.setByte(0, value));
            argument("setByte(last, " + value + ")", y -> y.setByte(count - 1, value));
        }
        for (int many : new int[] {-1, count + 1, MIN, MAX}) {
            argument("cutBytes(" + many + ")", y -> y.cutBytes(many));
        }
        Case.is("byteAt(last)", x.byteAt(count - 1), 0);
        Case.is("bytes(.., 1)", x.bytes(1, 1), count + 1);
        Case.is("bytes(.., 8)", x.bytes(1, 8), count + 9);
        Case.is("many bytes", manyBytes().cutBytes(3000), 3000);
    }

    private static void runs() {
        for (int e : beyond(5)) {
            index("begin(0, " + e + ")", x -> x.begin(0, e, 1, 2, 3));
            index("alike(0, " + e + ")", x -> x.alike(0, e, 0, 1, 2, 3));
            index("alike(0, " + e + ") by -1", x -> x.alike(0, e, -1, 1, 2, 3));
            refuses(CallEdgeTest::full, INDEX, "begin(0, " + e + ") beside 6", x -> x.begin(0, e, 1, 2, 3));
        }
        state("begin of a pointer", x -> x.begin(0, 1, 1, 2, 3));
        state("begin of 4 parameters", x -> x.begin(0, 2, 1, 2, 3));
        state("begin of a pointer behind a pass", x -> x.begin(1, 1, 1, 2, 3));
        refuses(CallEdgeTest::full, STATE, "a 7th run", x -> x.begin(0, 0, 1, 2, 3));
        Case.is("a 3rd run", rich().begin(0, 4, 1, 2, 3), 2);
        for (int r : beyond(2)) {
            for (int many : new int[] {1, 0, 40001}) {
                index("step(" + r + ", " + many + ")", x -> x.step(r, many));
            }
            index("dropRun(" + r + ")", x -> x.dropRun(r));
            index("runAt(" + r + ", 0)", x -> x.runAt(r, 0));
            index("runAt(" + r + ", 12)", x -> x.runAt(r, 12));
            index("value(" + r + ")", x -> x.value(r));
            index("outAt(" + r + ", 0)", x -> x.outAt(r, 0));
            index("outAt(" + r + ", -1)", x -> x.outAt(r, -1));
            index("stackAt(" + r + ", 0)", x -> x.stackAt(r, 0));
            index("stackAt(" + r + ", -1)", x -> x.stackAt(r, -1));
            index("localAt(" + r + ", 0, 0)", x -> x.localAt(r, 0, 0));
            index("localAt(" + r + ", -1, 0)", x -> x.localAt(r, -1, 0));
            index("globalAt(" + r + ", 0)", x -> x.globalAt(r, 0));
            index("memoryAt(" + r + ", 0)", x -> x.memoryAt(r, 0));
            index("memoryAt(" + r + ", -1)", x -> x.memoryAt(r, -1));
        }
        for (int many : new int[] {0, -1, 40001, MIN, MAX}) {
            argument("step(0, " + many + ")", x -> x.step(0, many));
            argument("step(1, " + many + ") of what has ended", x -> x.step(1, many));
        }
        state("step of what has ended", x -> x.step(1, 1));
        state("step of what has ended", x -> x.step(1, 40000));
    }

    private static void questionsOfRuns() {
        for (int what : beyond(12)) {
            argument("runAt(0, " + what + ")", x -> x.runAt(0, what));
            argument("runAt(1, " + what + ")", x -> x.runAt(1, what));
        }
        element("value of what goes", x -> x.value(0));
        element("value of what a trap ended", x -> x.value(1));
        Codekiln one = rich();
        Case.is("run 0 goes", one.runAt(0, 0), 0);
        Case.is("run 1 was ended", one.runAt(1, 0), 3);
        int depth = one.runAt(0, 3);
        for (int d : beyond(depth)) {
            element("stackAt(0, " + d + ")", x -> x.stackAt(0, d));
        }
        for (int o : beyond(one.runAt(0, 5))) {
            element("outAt(0, " + o + ")", x -> x.outAt(0, o));
        }
        int locals = one.functionAt(0, 2, 1) + one.functionAt(0, 2, 2);
        for (int l : beyond(locals)) {
            element("localAt(0, 0, " + l + ")", x -> x.localAt(0, 0, l));
        }
        for (int f : beyond(1)) {
            element("localAt(0, " + f + ", 0)", x -> x.localAt(0, f, 0));
        }
        for (int g : beyond(1)) {
            index("globalAt(0, " + g + ")", x -> x.globalAt(0, g));
        }
        for (int place : beyond(4096)) {
            argument("memoryAt(0, " + place + ")", x -> x.memoryAt(0, place));
            argument("memoryAt(1, " + place + ")", x -> x.memoryAt(1, place));
        }
        Case.is("globalAt(0, 0)", one.globalAt(0, 0), 4088);
        Case.is("memoryAt(0, 16)", one.memoryAt(0, 16), 5);
        Case.is("memoryAt(0, 4095)", one.memoryAt(0, 4095), 0);
        Case.is("localAt(0, 0, 0)", one.localAt(0, 0, 0), 4);
        Case.is("the last local", one.localAt(0, 0, locals - 1) != Long.MIN_VALUE, true);
    }

    private static void secondWays() {
        state("agree of a pointer", x -> x.agree(0, 1, 0, 1, 2, 3));
        state("agree of a pointer by 128", x -> x.agree(0, 1, 128, 1, 2, 3));
        state("agree of 4 parameters", x -> x.agree(0, 2, 0, 1, 2, 3));
        state("agree of 4 parameters by -1", x -> x.agree(0, 2, -1, 1, 2, 3));
        state("alike of a pointer", x -> x.alike(0, 1, 0, 1, 2, 3));
        state("alike of a pointer by 128", x -> x.alike(1, 1, 128, 1, 2, 3));
        state("alike of 4 parameters", x -> x.alike(0, 2, 0, 1, 2, 3));
        for (int bits : beyond(128)) {
            argument("agree by " + bits, x -> x.agree(0, 0, bits, 1, 2, 3));
            argument("alike by " + bits, x -> x.alike(0, 0, bits, 1, 2, 3));
        }
        Codekiln x = full();
        for (int bits = 0; bits < 128; bits++) {
            Case.is("agree by " + bits, x.agree(0, 0, bits, 1, 2, 3), 1);
            Case.is("alike by " + bits, x.alike(1, 3, bits, 2, 2, 3), 1);
        }
    }

    private static void changesNothing(String what, Ask ask) {
        for (int k = 0; k < 2; k++) {
            Kiln kiln = k == 0 ? CallEdgeTest::rich : CallEdgeTest::full;
            Codekiln x = kiln.made();
            ask.of(x);
            Case.is("what is there behind " + what, told(x), told(kiln.made()));
        }
    }

    private static void questionsChangeNothing() {
        changesNothing("faultKind", Codekiln::faultKind);
        changesNothing("faultPlace", Codekiln::faultPlace);
        changesNothing("programIs", x -> x.programIs(0, 3));
        changesNothing("functionIs", x -> x.functionIs(0, 0, 3));
        changesNothing("variableIs", x -> x.variableIs(0, 0, 2, 2));
        changesNothing("globalIs", x -> x.globalIs(0, 1, 2));
        changesNothing("firstByte", x -> x.firstByte(0, 16));
        changesNothing("meant", x -> x.meant(5));
        changesNothing("out", x -> x.out(0));
        changesNothing("meantByte", x -> x.meantByte(16));
        for (int which = 0; which < 7; which++) {
            int pass = which;
            changesNothing("isSteady " + which, x -> x.isSteady(0, pass));
            changesNothing("agree " + which, x -> x.agree(0, 0, 1 << pass, 1, 2, 3));
            changesNothing("alike " + which, x -> x.alike(0, 0, 1 << pass, 1, 2, 3));
        }
        changesNothing("agree of all", x -> x.agree(0, 3, 127, 0, 0, 0));
        changesNothing("alike of all", x -> x.alike(2, 0, 127, 12, 18, 0));
        changesNothing("moduleIs", x -> x.moduleIs(1, 8));
        changesNothing("functionAt", x -> x.functionAt(1, 2, 3));
        changesNothing("localSort", x -> x.localSort(1, 2, 0));
        changesNothing("opAt", x -> x.opAt(1, 2, 0, 1));
        changesNothing("countOf", x -> x.countOf(1, 11));
        changesNothing("byteAt", x -> x.byteAt(9));
        changesNothing("fault", x -> x.fault(true));
        changesNothing("same", x -> x.same(0, 1));
        changesNothing("runAt", x -> x.runAt(0, 7));
        changesNothing("outAt", x -> x.localAt(0, 0, 1));
        changesNothing("stackAt", x -> x.globalAt(0, 0));
        changesNothing("memoryAt", x -> x.memoryAt(0, 4095));
        changesNothing("errors", Codekiln::errors);
        changesNothing("checksum", Codekiln::checksum);
        changesNothing("meanSteps", Codekiln::meanSteps);
        changesNothing("shortness", x -> x.shortness(0, 2));
    }
}
