import java.util.Arrays;
import java.util.NoSuchElementException;

/**
 * A subset of C whose programs become modules of WebAssembly; the bytes of these, passes over them,
 * their validator and their machine; beside it the texts are carried out by their trees alone.
 */
public final class Codekiln {
    public static final int NONE = -1;

    private static final int TEXT_MOST = 1200;
    private static final int TOKENS_MOST = TEXT_MOST + 2;
    private static final int PROGRAMS_MOST = 6;
    private static final int INPUT_MOST = 40;
    private static final int OUT_KEPT = 100;
    private static final int MODULES_MOST = 12;
    private static final int RUNS_MOST = 6;
    private static final int BYTES_MOST = 20000;
    private static final int STEPS_MOST = 40000;
    private static final int MEMORY_SIZE = 4096;
    private static final int PAGE = 1024;
    private static final int PASSES = 7;
    private static final int GLOBALS_FROM = 16;
    private static final int OPEN_MOST = 12;
    private static final int DEEP_MOST = 24;
    private static final long UNSIGNED = 4294967295L;
    /** A bound for loops that end long before it. */
    private static final int MANY = 1000000;

    // Tokens; a sign is told by its letters: the code of the first one times 256 and the next one.
    private static final int END = 0;
    private static final int BAD = 1;
    private static final int NAME = 2;
    private static final int NUMBER = 3;
    private static final int LONG_NUMBER = 4;
    private static final int CHARACTER = 5;
    private static final int ROW = 6;
    private static final int W_INT = 7;
    private static final int W_CHAR = 8;
    private static final int W_LONG = 9;
    private static final int W_VOID = 10;
    private static final int W_IF = 11;
    private static final int W_ELSE = 12;
    private static final int W_WHILE = 13;
    private static final int W_DO = 14;
    private static final int W_FOR = 15;
    private static final int W_SWITCH = 16;
    private static final int W_CASE = 17;
    private static final int W_DEFAULT = 18;
    private static final int W_BREAK = 19;
    private static final int W_CONTINUE = 20;
    private static final int W_RETURN = 21;
    private static final int W_SIZEOF = 22;
    private static final int EQUAL = '=' << 8 | '=';
    private static final int UNEQUAL = '!' << 8 | '=';
    private static final int AT_MOST = '<' << 8 | '=';
    private static final int AT_LEAST = '>' << 8 | '=';
    private static final int SHIFT_LEFT = '<' << 8 | '<';
    private static final int SHIFT_RIGHT = '>' << 8 | '>';
    private static final int AND_AND = '&' << 8 | '&';
    private static final int OR_OR = '|' << 8 | '|';
    private static final int PLUS_PLUS = '+' << 8 | '+';
    private static final int MINUS_MINUS = '-' << 8 | '-';

    // Kinds of nodes of a tree: exps up to E_LAST, then statements, then what only stands in a first.
    private static final int E_NUMBER = 1;
    private static final int E_CHARACTER = 2;
    private static final int E_ROW = 3;
    private static final int E_NAME = 4;
    private static final int E_SIZEOF = 5;
    private static final int E_INDEX = 6;
    private static final int E_STAR = 7;
    private static final int E_ADDRESS = 8;
    private static final int E_SIGN = 9;
    private static final int E_AHEAD = 10;
    private static final int E_BEHIND = 11;
    private static final int E_CAST = 12;
    private static final int E_TWO = 13;
    private static final int E_BOTH = 14;
    private static final int E_EITHER = 15;
    private static final int E_CHOICE = 16;
    private static final int E_ASSIGN = 17;
    private static final int E_CALL = 18;
    private static final int E_LAST = 19;
    private static final int S_BLOCK = 20;
    private static final int S_EMPTY = 21;
    private static final int S_EXP = 22;
    private static final int S_IF = 23;
    private static final int S_WHILE = 24;
    private static final int S_DO = 25;
    private static final int S_FOR = 26;
    private static final int S_SWITCH = 27;
    private static final int S_BREAK = 28;
    private static final int S_CONTINUE = 29;
    private static final int S_RETURN = 30;
    private static final int S_LOCAL = 31;
    private static final int S_CASE = 32;
    private static final int S_DEFAULT = 33;
    private static final int F_BRACES = 40;

    // Fields of a node.
    private static final int KIND = 0;
    private static final int A = 1;
    private static final int B = 2;
    private static final int C = 3;
    private static final int D = 4;
    private static final int AT = 5;
    private static final int FIRST = 6;
    private static final int TYPE = 7;
    private static final int NEXT = 8;
    private static final int DEEP = 9;
    private static final int NODE = 10;

    // What a name is bound to.
    private static final int VARIABLE = 0;
    private static final int GLOBAL = 1;
    private static final int FUNCTION = 2;
    private static final int GET = 3;
    private static final int PUT = 4;
    private static final int BINDING = 4096;

    // Types: a pointer is 4 more than that to which it points, a FUNCTION POINTER is below NONE.
    private static final int T_VOID = 0;
    private static final int T_INT = 1;
    private static final int T_CHAR = 2;
    private static final int T_LONG = 3;
    private static final int POINTER = 4;

    // Fields of variables, of functions, of GLOBALS and of ROWS of a program.
    private static final int V_TYPE = 0;
    private static final int V_CELLS = 1;
    private static final int V_OFFSET = 2;
    private static final int VARIABLE_SIZE = 3;
    private static final int F_SIGN = 0;
    private static final int F_BODY = 1;
    private static final int F_VARIABLES = 2;
    private static final int F_PARAMETERS = 3;
    private static final int F_LOCALS = 4;
    private static final int F_FRAME = 5;
    private static final int F_PLACE = 6;
    private static final int FUNCTION_SIZE = 7;
    private static final int G_TYPE = 0;
    private static final int G_CELLS = 1;
    private static final int G_PLACE = 2;
    private static final int G_FIRST = 3;
    private static final int GLOBAL_SIZE = 4;
    private static final int R_START = 0;
    private static final int R_LENGTH = 1;
    private static final int R_PLACE = 2;
    private static final int ROW_SIZE = 3;
    private static final int ROWS_MOST = 8;

    // Instructions by their bytes.
    private static final int UNREACHABLE = 0;
    private static final int NOP = 1;
    private static final int BLOCK = 2;
    private static final int LOOP = 3;
    private static final int IF = 4;
    private static final int ELSE = 5;
    private static final int CLOSE = 11;
    private static final int BR = 12;
    private static final int BR_IF = 13;
    private static final int BR_TABLE = 14;
    private static final int RETURN = 15;
    private static final int CALL = 16;
    private static final int INDIRECT = 17;
    private static final int DROP = 26;
    private static final int SELECT = 27;
    private static final int LOCAL_GET = 32;
    private static final int LOCAL_SET = 33;
    private static final int LOCAL_TEE = 34;
    private static final int GLOBAL_GET = 35;
    private static final int GLOBAL_SET = 36;
    private static final int LOAD = 40;
    private static final int LOAD_LONG = 41;
    private static final int LOAD_BYTE = 45;
    private static final int STORE = 54;
    private static final int STORE_LONG = 55;
    private static final int STORE_BYTE = 58;
    private static final int SIZE = 63;
    private static final int GROW = 64;
    private static final int CONST = 65;
    private static final int CONST_LONG = 66;
    private static final int EQZ = 69;
    private static final int EQ = 70;
    private static final int NE = 71;
    private static final int GE_U = 79;
    private static final int EQZ_LONG = 80;
    private static final int EQ_LONG = 81;
    private static final int GE_U_LONG = 90;
    private static final int ADD = 106;
    private static final int SUB = 107;
    private static final int MUL = 108;
    private static final int DIV = 109;
    private static final int REM = 111;
    private static final int AND = 113;
    private static final int SHL = 116;
    private static final int SHR_U = 118;
    private static final int ADD_LONG = 124;
    private static final int SHR_U_LONG = 136;
    private static final int WRAP = 167;
    private static final int EXTEND = 172;
    /** How far the bytes of i64 lie behind those of i32: comparisons, then what reckons. */
    private static final int LONG_COMPARES = 11;
    private static final int LONG_RECKONS = 18;

    // SORTS, and what may stand in their place.
    private static final int I32 = 127;
    private static final int I64 = 126;
    private static final int NO_SORT = 64;
    private static final int UNKNOWN = 0;

    // What stands with an instruction.
    private static final int WITH_NOTHING = 0;
    private static final int WITH_SORT = 1;
    private static final int WITH_INDEX = 2;
    private static final int WITH_TYPE = 3;
    private static final int WITH_OFFSET = 4;
    private static final int WITH_ZERO = 5;
    private static final int WITH_WORD = 6;
    private static final int WITH_LONG = 7;
    private static final int WITH_ROW = 8;

    // How a working out, or a run, stands.
    private static final int ENDED = 0;
    private static final int BY_DIVISION = 1;
    private static final int BY_MEMORY = 2;
    private static final int BY_TABLE = 3;
    private static final int BY_BOUND = 4;
    private static final int WORKING = 5;
    private static final int RUN_GOING = 0;
    private static final int RUN_ENDED = 1;
    private static final int RUN_UNREACHABLE = 2;
    private static final int RUN_DIVISION = 3;
    private static final int RUN_MEMORY = 4;
    private static final int RUN_TABLE = 5;
    private static final int RUN_DEEP = 6;

    /** Two modules more than can be told of, on which to try passes. */
    private static final int WORKSHOP = MODULES_MOST;

    private final byte[] text = new byte[TEXT_MOST];
    private int textLength;
    private final Parser parser = new Parser();
    private final Checker checker = new Checker();
    private final Program[] programs = new Program[PROGRAMS_MOST + 1];
    private int programCount;
    private final int[] input = new int[INPUT_MOST];
    private int inputCount;
    private final Meaning meaning = new Meaning();
    private final Meaning otherMeaning = new Meaning();
    private final Maker maker = new Maker();
    private final Module[] modules = new Module[MODULES_MOST + 2];
    private int moduleCount;
    private final Passer passer = new Passer();
    private final Validator validator = new Validator();
    private final Bytes bytes = new Bytes();
    private final Bytes otherBytes = new Bytes();
    private final Run[] runs = new Run[RUNS_MOST + 2];
    private int runCount;

    public Codekiln() {
        textLength = 0;
        programCount = 0;
        inputCount = 0;
        moduleCount = 0;
        runCount = 0;
    }

    // ---- The text.

    public int type(long a, long b, long c, long d) throws IllegalStateException {
        if (textLength + signsIn(a) + signsIn(b) + signsIn(c) + signsIn(d) > TEXT_MOST) {
            throw new IllegalStateException("the text would be too long");
        }
        putSigns(a);
        putSigns(b);
        putSigns(c);
        putSigns(d);
        return textLength;
    }

    private static int signsIn(long eight) {
        int many = 0;
        for (int shift = 56; shift >= 0; shift -= 8) {
            many = (eight >>> shift & 255) != 0 ? many + 1 : many;
        }
        return many;
    }

    private void putSigns(long eight) {
        for (int shift = 56; shift >= 0; shift -= 8) {
            if ((eight >>> shift & 255) != 0) {
                putSign((int) (eight >>> shift));
            }
        }
    }

    private void putSign(int sign) {
        if (textLength < TEXT_MOST) {
            text[textLength] = (byte) sign;
            textLength++;
            parser.isExamined = false;
        }
    }

    public int piece(int which) throws IllegalArgumentException, IllegalStateException {
        String told = pieceOf(which);
        if (told.isEmpty()) {
            throw new IllegalArgumentException("there is no such piece");
        }
        if (textLength + told.length() > TEXT_MOST) {
            throw new IllegalStateException("the text would be too long");
        }
        for (int k = 0; k < told.length(); k++) {
            putSign(told.charAt(k));
        }
        return textLength;
    }

    private static String pieceOf(int which) {
        switch (which) {
            case 0:
                return "int fact(int n){if(n<2)return 1;return n*fact(n-1);}";
            case 1:
                return "int gcd(int a,int b){while(b){int t=a%b;a=b;b=t;}return a;}";
            case 2:
                return "int a[10];int fill(int n){int i;for(i=0;i<10;i++)a[i]=n*i;return a[9];}";
            case 3:
                return "char w[12]=\"hello\";int len(char *p){int n=0;while(*p++)n++;return n;}int hlen(){return len(w);}";
            case 4:
                return "int inc(int x){return x+1;}int twice(int (*f)(int),int x){return f(f(x));}int two(int x){return twice(inc,x);}";
            case 5:
                return "int sw(int n){switch(n){case 1:put(10);case 2:put(20);break;case 7:return 7;default:put(-1);}return 0;}";
            case 6:
                return "long mix(long x,int k){while(k-->0){x=x*1103515245L+12345L;x^=x>>33;}return x;}";
            case 7:
                return "int sum(){int t=0;int x;while((x=get())!=-1)t+=x;return t;}int sq(int x){return x*x;}int hyp(int a,int b){return sq(a)+sq(b);}";
            default:
                return "";
        }
    }

    public int clearText() {
        int before = textLength;
        textLength = 0;
        parser.isExamined = false;
        return before;
    }

    public int faultKind() {
        examine();
        return parser.kind;
    }

    public int faultPlace() {
        examine();
        return parser.place;
    }

    /** Reads the text into the program behind those that there are. */
    private void examine() {
        if (parser.isExamined) {
            return;
        }
        if (programs[programCount] == null) {
            programs[programCount] = new Program();
        }
        Program program = programs[programCount];
        parser.isExamined = true;
        parser.kind = 0;
        parser.tokens.cut(text, textLength);
        parser.prepare(program);
        try {
            parser.things();
        } catch (IllegalStateException e) {
            parser.kind = 1;
            parser.place = parser.placeAtHand();
            return;
        }
        parser.place = parser.secondKind();
        if (parser.place != NONE) {
            parser.kind = 2;
            return;
        }
        parser.place = checker.check(program);
        if (parser.place != NONE) {
            parser.kind = 3;
            return;
        }
        program.layOut(text);
    }

    public int load() throws IllegalStateException {
        examine();
        if (parser.kind != 0 || programCount >= PROGRAMS_MOST) {
            throw new IllegalStateException("the text has a fault, or there are too many programs");
        }
        programCount++;
        textLength = 0;
        parser.isExamined = false;
        return programCount - 1;
    }

    // ---- Programs.

    private Program wantedProgram(int program) {
        if (program < 0 || program >= programCount) {
            throw new IndexOutOfBoundsException("there is no such program");
        }
        return programs[program];
    }

    private Program wantedFunction(int program, int function) {
        Program told = wantedProgram(program);
        if (function < 0 || function >= told.functionCount) {
            throw new IndexOutOfBoundsException("there is no such function");
        }
        return told;
    }

    private static void needArgument(int what, int most) {
        if (what < 0 || what > most) {
            throw new IllegalArgumentException("a number that is out of its range");
        }
    }

    public int programIs(int program, int what) throws IndexOutOfBoundsException, IllegalArgumentException {
        Program told = wantedProgram(program);
        needArgument(what, 3);
        switch (what) {
            case 0:
                return told.functionCount;
            case 1:
                return told.globalCount;
            case 2:
                return told.rowCount;
            default:
                return told.end - GLOBALS_FROM;
        }
    }

    public int functionIs(int program, int function, int what)
        throws IndexOutOfBoundsException, IllegalArgumentException {
        Program told = wantedFunction(program, function);
        needArgument(what, 5);
        switch (what) {
            case 0:
                return told.function(function, F_PARAMETERS);
            case 1:
                return told.function(function, F_LOCALS);
            case 2:
                return told.placedIn(function);
            case 3:
                return told.function(function, F_FRAME);
            case 4:
                return Program.sizeOf(told.resultOf(told.function(function, F_SIGN)));
            default:
                return told.canBeAsked(function) ? 1 : 0;
        }
    }

    public int variableIs(int program, int function, int variable, int what)
        throws IndexOutOfBoundsException, IllegalArgumentException {
        Program told = wantedFunction(program, function);
        int many = told.function(function, F_PARAMETERS) + told.function(function, F_LOCALS);
        if (variable < 0 || variable >= many) {
            throw new IndexOutOfBoundsException("there is no such variable");
        }
        needArgument(what, 2);
        int v = told.function(function, F_VARIABLES) + variable;
        int size = Program.sizeOf(told.variable(v, V_TYPE));
        return what == 0 ? size : told.variable(v, what == 1 ? V_CELLS : V_OFFSET);
    }

    public int globalIs(int program, int global, int what) throws IndexOutOfBoundsException, IllegalArgumentException {
        Program told = wantedProgram(program);
        if (global < 0 || global >= told.globalCount) {
            throw new IndexOutOfBoundsException("there is no such GLOBAL");
        }
        needArgument(what, 2);
        int size = Program.sizeOf(told.global(global, G_TYPE));
        return what == 0 ? size : told.global(global, what == 1 ? G_CELLS : G_PLACE);
    }

    public int firstByte(int program, int place) throws IndexOutOfBoundsException, IllegalArgumentException {
        Program told = wantedProgram(program);
        needArgument(place, MEMORY_SIZE - 1);
        return told.firstMemory(place);
    }

    // ---- The meaning.

    public int feed(int number) throws IllegalStateException {
        if (inputCount >= INPUT_MOST) {
            throw new IllegalStateException("there is no room in the INPUT");
        }
        input[inputCount] = number;
        inputCount++;
        return inputCount;
    }

    public int clearInput() {
        int before = inputCount;
        inputCount = 0;
        return before;
    }

    private static void needAsked(Program program, int function) {
        if (!program.canBeAsked(function)) {
            throw new IllegalStateException("the function cannot be asked");
        }
    }

    public int mean(int program, int function, long a, long b, long c)
        throws IndexOutOfBoundsException, IllegalStateException {
        Program told = wantedFunction(program, function);
        needAsked(told, function);
        giveMeaning(meaning, told, function, a, b, c);
        return meaning.work(function);
    }

    private void giveMeaning(Meaning to, Program program, int function, long a, long b, long c) {
        to.ready(program, input, inputCount);
        for (int k = 0; k < program.function(function, F_PARAMETERS) && k < 3; k++) {
            int type = program.variable(program.function(function, F_VARIABLES) + k, V_TYPE);
            to.give(k == 0 ? a : k == 1 ? b : c, type);
        }
    }

    public long meant(int what) throws IllegalArgumentException {
        needArgument(what, 6);
        if (meaning.state == NONE) {
            return 0;
        }
        switch (what) {
            case 0:
                return meaning.result;
            case 1:
                return meaning.ticks;
            case 2:
                return meaning.most;
            case 3:
                return meaning.outCount;
            case 4:
                return meaning.outSum;
            case 5:
                return meaning.memorySum();
            default:
                return meaning.top;
        }
    }

    public int out(int index) throws NoSuchElementException {
        if (index < 0 || index >= meaning.outCount || index >= OUT_KEPT) {
            throw new NoSuchElementException("no such number was put");
        }
        return meaning.outs[index];
    }

    public int meantByte(int place) throws IllegalArgumentException {
        needArgument(place, MEMORY_SIZE - 1);
        return meaning.memory[place] & 255;
    }

    // ---- Making, passes.

    /** A module that may be used anew, or one of the workshop. */
    private Module slot(int k) {
        if (modules[k] == null) {
            modules[k] = new Module();
        }
        return modules[k];
    }

    private Module wantedModule(int module) {
        if (module < 0 || module >= moduleCount) {
            throw new IndexOutOfBoundsException("there is no such module");
        }
        return modules[module];
    }

    private void needModuleRoom() {
        if (moduleCount >= MODULES_MOST) {
            throw new IllegalStateException("there are too many modules");
        }
    }

    public int make(int program) throws IndexOutOfBoundsException, IllegalStateException {
        Program told = wantedProgram(program);
        needModuleRoom();
        maker.compile(told, slot(moduleCount));
        moduleCount++;
        return moduleCount - 1;
    }

    public int pass(int module, int which)
        throws IndexOutOfBoundsException, IllegalArgumentException, IllegalStateException {
        Module told = wantedModule(module);
        needArgument(which, PASSES - 1);
        needModuleRoom();
        slot(moduleCount).copy(told);
        passer.doOne(slot(moduleCount), which);
        moduleCount++;
        return moduleCount - 1;
    }

    public int passes(int module, int bits)
        throws IndexOutOfBoundsException, IllegalArgumentException, IllegalStateException {
        Module told = wantedModule(module);
        needArgument(bits, 127);
        needModuleRoom();
        slot(moduleCount).copy(told);
        passer.doAll(slot(moduleCount), bits);
        moduleCount++;
        return moduleCount - 1;
    }

    public boolean isSteady(int module, int which) throws IndexOutOfBoundsException, IllegalArgumentException {
        Module told = wantedModule(module);
        needArgument(which, PASSES - 1);
        Module once = slot(WORKSHOP);
        Module twice = slot(WORKSHOP + 1);
        once.copy(told);
        passer.doOne(once, which);
        twice.copy(once);
        passer.doOne(twice, which);
        return validator.firstWrong(once) == NONE && once.isLike(twice);
    }

    // ---- Modules.

    public int moduleIs(int module, int what) throws IndexOutOfBoundsException, IllegalArgumentException {
        Module told = wantedModule(module);
        needArgument(what, 13);
        switch (what) {
            case 0:
                return told.typeCount;
            case 1:
                return told.importCount;
            case 2:
                return told.own;
            case 3:
                return Math.max(0, told.entries);
            case 4:
                return told.globalCount;
            case 5:
                return told.exportCount;
            case 6:
                return told.elementCount;
            case 7:
                return told.dataCount;
            case 8:
                return otherBytes.measure(told);
            case 9:
                return told.program != null ? 1 : 0;
            case 10:
                return Math.max(0, told.least);
            case 11:
                return Math.max(0, told.most);
            case 12:
                return told.instructions();
            default:
                return told.allLocals();
        }
    }

    public int functionAt(int module, int function, int what)
        throws IndexOutOfBoundsException, IllegalArgumentException {
        Module told = wantedModule(module);
        if (function < 0 || function >= told.functions()) {
            throw new IndexOutOfBoundsException("there is no such function");
        }
        needArgument(what, 4);
        int type = told.typeOf(function);
        boolean isOwn = function >= told.importCount;
        switch (what) {
            case 0:
                return type;
            case 1:
                return told.parameters(type);
            case 2:
                return isOwn ? told.body(function - told.importCount).sortCount : 0;
            case 3:
                return isOwn ? told.body(function - told.importCount).count : 0;
            default:
                return told.result(type);
        }
    }

    private Body wantedBody(int module, int function) {
        Module told = wantedModule(module);
        if (function < told.importCount || function >= told.functions()) {
            throw new IndexOutOfBoundsException("there is no such own function");
        }
        return told.body(function - told.importCount);
    }

    public int localSort(int module, int function, int local) throws IndexOutOfBoundsException {
        Body body = wantedBody(module, function);
        Module told = wantedModule(module);
        if (local < 0 || local >= told.localsOf(body)) {
            throw new IndexOutOfBoundsException("there is no such local");
        }
        return told.sortOf(body, local);
    }

    private Body wantedInstruction(int module, int function, int instruction) {
        Body body = wantedBody(module, function);
        if (instruction < 0 || instruction >= body.count) {
            throw new IndexOutOfBoundsException("there is no such instruction");
        }
        return body;
    }

    public long opAt(int module, int function, int instruction, int what)
        throws IndexOutOfBoundsException, IllegalArgumentException {
        Body body = wantedInstruction(module, function, instruction);
        needArgument(what, 1);
        if (what == 0) {
            return body.op(instruction);
        }
        long with = body.with(instruction);
        return body.op(instruction) == BR_TABLE ? body.rowSize(with) : with;
    }

    public int targetAt(int module, int function, int instruction, int index)
        throws IndexOutOfBoundsException, NoSuchElementException {
        Body body = wantedInstruction(module, function, instruction);
        long row = body.with(instruction);
        if (body.op(instruction) != BR_TABLE || index < 0 || index > body.rowSize(row)) {
            throw new NoSuchElementException("there is no such place");
        }
        return body.rowPlace(row, index);
    }

    public int countOf(int module, int code) throws IndexOutOfBoundsException, IllegalArgumentException {
        Module told = wantedModule(module);
        needArgument(code, 255);
        int many = 0;
        for (int k = 0; k < told.own; k++) {
            Body body = told.body(k);
            for (int i = 0; i < body.count; i++) {
                many = body.op(i) == code ? many + 1 : many;
            }
        }
        return many;
    }

    // ---- Bytes.

    public int bytes(long eight, int many) throws IllegalArgumentException, IllegalStateException {
        if (many < 1 || many > 8) {
            throw new IllegalArgumentException("so many bytes cannot be put");
        }
        if (bytes.count + many > BYTES_MOST) {
            throw new IllegalStateException("there would be too many bytes");
        }
        for (int k = many - 1; k >= 0; k--) {
            bytes.addByte((int) (eight >>> 8 * k));
        }
        return bytes.count;
    }

    public int write(int module) throws IndexOutOfBoundsException, IllegalStateException {
        Module told = wantedModule(module);
        if (bytes.measure(told) > BYTES_MOST) {
            throw new IllegalStateException("there would be too many bytes");
        }
        bytes.fill(told);
        return bytes.count;
    }

    public int byteAt(int index) {
        return bytes.byteOf(index);
    }

    public int setByte(int index, int value) throws IndexOutOfBoundsException, IllegalArgumentException {
        int before = bytes.byteOf(index);
        if (before == NONE) {
            throw new IndexOutOfBoundsException("there is no such byte");
        }
        needArgument(value, 255);
        bytes.setByteOf(index, value);
        return before;
    }

    public int cutBytes(int many) throws IllegalArgumentException {
        needArgument(many, bytes.count);
        int before = bytes.count;
        bytes.count = many;
        return before;
    }

    public int read() throws IllegalStateException {
        needModuleRoom();
        Module read = slot(moduleCount);
        if (!bytes.take(read)) {
            return NONE;
        }
        int wrong = validator.firstWrong(read);
        if (wrong != NONE) {
            bytes.tellInvalid(wrong);
            return NONE;
        }
        moduleCount++;
        return moduleCount - 1;
    }

    public int fault(boolean isKind) {
        return isKind ? bytes.faultKind : bytes.faultPlace;
    }

    public boolean same(int one, int other) throws IndexOutOfBoundsException {
        return wantedModule(one).isLike(wantedModule(other));
    }

    public int clearModules() {
        int before = moduleCount;
        moduleCount = 0;
        runCount = 0;
        return before;
    }

    // ---- Runs.

    /** A run that may be used anew, or one that is kept for a second way. */
    private Run runSlot(int k) {
        if (runs[k] == null) {
            runs[k] = new Run();
        }
        return runs[k];
    }

    private Run wantedRun(int run) {
        if (run < 0 || run >= runCount) {
            throw new IndexOutOfBoundsException("there is no such run");
        }
        return runs[run];
    }

    /** The module of an export; whether that can be run is another question. */
    private Module wantedExport(int module, int export) {
        Module told = wantedModule(module);
        if (export < 0 || export >= told.exportCount) {
            throw new IndexOutOfBoundsException("there is no such export");
        }
        return told;
    }

    private static void needRunnable(Module module, int export) {
        int f = module.exported(export, 0);
        boolean can = f >= module.importCount && module.parameters(module.typeOf(f)) <= 3;
        if (!can || module.program != null && !module.program.canBeAsked(f - module.importCount)) {
            throw new IllegalStateException("the export cannot be run");
        }
    }

    /** Sets a run up and lets it enter its function. */
    private void start(Run run, Module module, int f, long a, long b, long c) {
        validator.link(module);
        run.ready(module, input, inputCount);
        int type = module.typeOf(f);
        Program program = module.program;
        for (int k = 0; k < module.parameters(type) && k < 3; k++) {
            long number = k == 0 ? a : k == 1 ? b : c;
            if (program != null) {
                int from = program.function(f - module.importCount, F_VARIABLES);
                number = Program.converted(number, program.variable(from + k, V_TYPE));
            }
            run.give(number, module.parameter(type, k));
        }
        run.enter(f);
    }

    public int begin(int module, int export, long a, long b, long c)
        throws IndexOutOfBoundsException, IllegalStateException {
        Module told = wantedExport(module, export);
        needRunnable(told, export);
        if (runCount >= RUNS_MOST) {
            throw new IllegalStateException("there are too many runs");
        }
        start(runSlot(runCount), told, told.exported(export, 0), a, b, c);
        runCount++;
        return runCount - 1;
    }

    public int step(int run, int steps)
        throws IndexOutOfBoundsException, IllegalArgumentException, IllegalStateException {
        Run told = wantedRun(run);
        if (steps < 1 || steps > STEPS_MOST) {
            throw new IllegalArgumentException("so many steps cannot be done");
        }
        if (told.state != RUN_GOING) {
            throw new IllegalStateException("the run has ended");
        }
        return told.go(steps);
    }

    public int runAt(int run, int what) throws IndexOutOfBoundsException, IllegalArgumentException {
        Run told = wantedRun(run);
        needArgument(what, 11);
        switch (what) {
            case 0:
                return told.state;
            case 1:
                return told.steps;
            case 2:
                return told.depth;
            case 3:
                return told.onAllStacks();
            case 4:
                return told.pages;
            case 5:
                return told.outCount;
            case 6:
                return told.outSum;
            case 7:
                return told.memorySum();
            case 8:
                return told.deepest;
            case 9:
                return told.state == RUN_GOING ? told.function() : NONE;
            case 10:
                return told.state == RUN_GOING ? told.instruction() : NONE;
            default:
                return told.inputAt;
        }
    }

    public long value(int run) throws IndexOutOfBoundsException, NoSuchElementException {
        Run told = wantedRun(run);
        if (told.state != RUN_ENDED) {
            throw new NoSuchElementException("the run has no value");
        }
        return told.result;
    }

    public int outAt(int run, int index) throws IndexOutOfBoundsException, NoSuchElementException {
        Run told = wantedRun(run);
        if (index < 0 || index >= told.outCount || index >= OUT_KEPT) {
            throw new NoSuchElementException("no such number was put");
        }
        return told.outs[index];
    }

    public long stackAt(int run, int depth) throws IndexOutOfBoundsException, NoSuchElementException {
        Run told = wantedRun(run);
        if (depth < 0 || depth >= told.onStack()) {
            throw new NoSuchElementException("nothing lies so deep");
        }
        return told.below(depth);
    }

    public long localAt(int run, int frame, int local) throws IndexOutOfBoundsException, NoSuchElementException {
        Run told = wantedRun(run);
        if (frame < 0 || frame >= told.depth || local < 0 || local >= told.localsOf(frame)) {
            throw new NoSuchElementException("there is no such frame or local");
        }
        return told.local(frame, local);
    }

    public long globalAt(int run, int global) throws IndexOutOfBoundsException {
        Run told = wantedRun(run);
        if (global < 0 || global >= told.module.globalCount || global >= told.globals.length) {
            throw new IndexOutOfBoundsException("there is no such global");
        }
        return told.globals[global];
    }

    public int memoryAt(int run, int place) throws IndexOutOfBoundsException, IllegalArgumentException {
        Run told = wantedRun(run);
        needArgument(place, Math.min(told.pages * PAGE, told.memory.length) - 1);
        return told.memory[place] & 255;
    }

    public int dropRun(int run) throws IndexOutOfBoundsException {
        Run told = wantedRun(run);
        for (int k = run; k < runCount - 1; k++) {
            runs[k] = runs[k + 1];
        }
        runCount--;
        runs[runCount] = told;
        return runCount;
    }

    // ---- Second ways.

    public int agree(int program, int function, int bits, long a, long b, long c)
        throws IndexOutOfBoundsException, IllegalStateException, IllegalArgumentException {
        Program told = wantedFunction(program, function);
        needAsked(told, function);
        needArgument(bits, 127);
        Module module = slot(WORKSHOP);
        Run run = runSlot(RUNS_MOST);
        maker.compile(told, module);
        passer.doAll(module, bits);
        start(run, module, function + module.importCount, a, b, c);
        run.go(STEPS_MOST);
        giveMeaning(otherMeaning, told, function, a, b, c);
        int end = otherMeaning.work(function);
        if (end == BY_BOUND || run.state == RUN_DEEP || run.state == RUN_GOING) {
            return 2;
        }
        boolean isLike = end == ENDED ? run.state == RUN_ENDED && run.result == otherMeaning.result
            : run.state == end + RUN_UNREACHABLE;
        isLike = isLike && run.outCount == otherMeaning.outCount && run.outSum == otherMeaning.outSum;
        return isLike && run.hasMemory(otherMeaning.memory) ? 1 : 0;
    }

    public int alike(int module, int export, int bits, long a, long b, long c)
        throws IndexOutOfBoundsException, IllegalStateException, IllegalArgumentException {
        Module told = wantedExport(module, export);
        needRunnable(told, export);
        needArgument(bits, 127);
        Module other = slot(WORKSHOP);
        Run one = runSlot(RUNS_MOST);
        Run two = runSlot(RUNS_MOST + 1);
        other.copy(told);
        passer.doAll(other, bits);
        start(one, told, told.exported(export, 0), a, b, c);
        start(two, other, told.exported(export, 0), a, b, c);
        one.go(STEPS_MOST);
        two.go(STEPS_MOST);
        boolean isBound = one.state == RUN_GOING || one.state == RUN_DEEP
            || two.state == RUN_GOING || two.state == RUN_DEEP;
        return isBound ? 2 : one.isLike(two) ? 1 : 0;
    }

    public int errors() {
        int many = 0;
        for (int k = 0; k < moduleCount; k++) {
            Module told = modules[k];
            boolean isGood = validator.firstWrong(told) == NONE;
            if (isGood && otherBytes.measure(told) <= BYTES_MOST) {
                otherBytes.fill(told);
                isGood = otherBytes.take(slot(WORKSHOP)) && told.isLike(slot(WORKSHOP));
            }
            many = isGood ? many : many + 1;
        }
        for (int k = 0; k < runCount; k++) {
            boolean isWrong = runs[k].state == RUN_UNREACHABLE && runs[k].module.program != null;
            many = isWrong ? many + 1 : many;
        }
        return many;
    }

    public int checksum() {
        int sum = 17;
        for (int k = 0; k < bytes.count; k++) {
            sum = sum * 31 + bytes.byteOf(k);
        }
        return sum;
    }

    public double meanSteps() {
        long all = 0;
        for (int k = 0; k < runCount; k++) {
            all += runs[k].steps;
        }
        return runCount > 0 ? (double) all / (double) runCount : 0.0;
    }

    public float shortness(int module, int other) throws IndexOutOfBoundsException {
        int one = wantedModule(module).instructions();
        int two = wantedModule(other).instructions();
        return two > 0 ? (float) one / (float) two : 0.0f;
    }

    /** Cuts a text into tokens. */
    private static final class Tokens {
        final int[] kinds = new int[TOKENS_MOST];
        final int[] places = new int[TOKENS_MOST];
        final long[] values = new long[TOKENS_MOST];
        int count;
        private final long[] words = new long[16];

        Tokens() {
            words[0] = packed("int");
            words[1] = packed("char");
            words[2] = packed("long");
            words[3] = packed("void");
            words[4] = packed("if");
            words[5] = packed("else");
            words[6] = packed("while");
            words[7] = packed("do");
            words[8] = packed("for");
            words[9] = packed("switch");
            words[10] = packed("case");
            words[11] = packed("default");
            words[12] = packed("break");
            words[13] = packed("continue");
            words[14] = packed("return");
            words[15] = packed("sizeof");
        }

        /** The last token is END, or the first BAD one: nothing behind that can matter. */
        void cut(byte[] text, int length) {
            count = 0;
            int at = 0;
            boolean going = true;
            for (int k = 0; k <= length && going; k++) {
                at = behindSpaces(text, length, at);
                at = one(text, length, at);
                going = count > 0 && count <= TEXT_MOST && kinds[count - 1] > BAD;
            }
        }

        private static int behindSpaces(byte[] text, int length, int from) {
            for (int at = from; at < length && at < text.length; at++) {
                if (text[at] != 32 && text[at] != 10) {
                    return at;
                }
            }
            return length;
        }

        private int one(byte[] text, int length, int at) {
            int c = code(text, length, at);
            if (at >= length) {
                return put(END, at, 0, at);
            }
            if (isLetter(c)) {
                return name(text, length, at);
            }
            if (isDigit(c)) {
                return number(text, length, at);
            }
            if (c == '\'') {
                return character(text, length, at);
            }
            if (c == '"') {
                return row(text, length, at);
            }
            return sign(text, length, at);
        }

        private int put(int kind, int place, long value, int end) {
            if (count < TOKENS_MOST) {
                kinds[count] = kind;
                places[count] = place;
                values[count] = value;
                count++;
            }
            return end;
        }

        private static int code(byte[] text, int length, int at) {
            return at >= 0 && at < length && at < text.length ? text[at] & 255 : 0;
        }

        private static boolean isLetter(int c) {
            return c >= 'a' && c <= 'z' || c == '_';
        }

        private static boolean isDigit(int c) {
            return c >= '0' && c <= '9';
        }

        private int name(byte[] text, int length, int at) {
            long value = 0;
            int end = at;
            for (int c = code(text, length, end); end < length && (isLetter(c) || isDigit(c)); ) {
                value = value * 38 + letter(c);
                end++;
                c = code(text, length, end);
            }
            if (end - at > 10) {
                return put(BAD, at, 0, end);
            }
            for (int k = 0; k < words.length; k++) {
                if (words[k] == value) {
                    return put(W_INT + k, at, 0, end);
                }
            }
            return put(NAME, at, value, end);
        }

        private int number(byte[] text, int length, int at) {
            long value = 0;
            int end = at;
            for (int c = code(text, length, end); end < length && isDigit(c); ) {
                value = end - at < 18 ? value * 10 + (c - '0') : value;
                end++;
                c = code(text, length, end);
            }
            int digits = end - at;
            if (code(text, length, end) == 'L') {
                return put(digits <= 18 ? LONG_NUMBER : BAD, at, value, end + 1);
            }
            return put(digits <= 10 && value <= Integer.MAX_VALUE ? NUMBER : BAD, at, value, end);
        }

        private int character(byte[] text, int length, int at) {
            int c = code(text, length, at + 1);
            if (c == '\\') {
                int told = code(text, length, at + 2);
                boolean good = (told == 'n' || told == '0') && code(text, length, at + 3) == '\'';
                return put(good ? CHARACTER : BAD, at, told == 'n' ? 10 : 0, at + 4);
            }
            boolean good = c >= 32 && c <= 126 && c != '\'' && code(text, length, at + 2) == '\'';
            return put(good ? CHARACTER : BAD, at, c, at + 3);
        }

        private int row(byte[] text, int length, int at) {
            int end = at + 1;
            for (int c = code(text, length, end); end < length && c >= 32 && c <= 126 && c != '"' && c != '\\'; ) {
                end++;
                c = code(text, length, end);
            }
            int signs = end - at - 1;
            boolean good = code(text, length, end) == '"' && signs <= 40;
            return put(good ? ROW : BAD, at, signs, end + 1);
        }

        private int sign(byte[] text, int length, int at) {
            int c = code(text, length, at);
            int next = code(text, length, at + 1);
            if ((c == '<' || c == '>') && next == c && code(text, length, at + 2) == '=') {
                return put((c << 8 | c) << 8 | '=', at, 0, at + 3);
            }
            boolean isTwo = next == '=' && "=!<>+-*/%&|^".indexOf((char) c) >= 0
                || next == c && "<>&|+-".indexOf((char) c) >= 0;
            if (isTwo) {
                return put(c << 8 | next, at, 0, at + 2);
            }
            boolean isOne = "+-*/%&|^~!=<>(){}[];,?:".indexOf((char) c) >= 0;
            return put(isOne ? c : BAD, at, 0, at + 1);
        }

        private static int letter(int c) {
            return c == '_' ? 27 : isDigit(c) ? c - '0' + 28 : c - 'a' + 1;
        }

        /** A name as one number, so that names are told apart without objects. */
        private static long packed(String name) {
            long value = 0;
            for (int k = 0; k < name.length(); k++) {
                value = value * 38 + letter(name.charAt(k));
            }
            return value;
        }
    }

    /** A text as its tree, with all that it tells; rows of numbers stand for nodes and things. */
    private static final class Program {
        private static final int THINGS_MOST = 260;
        private final int[] nodes = new int[TOKENS_MOST * NODE];
        private final long[] numbers = new long[TOKENS_MOST];
        int nodeCount;
        private final int[] signs = new int[TOKENS_MOST];
        private int signsEnd;
        private final int[] variables = new int[THINGS_MOST * VARIABLE_SIZE];
        int variableCount;
        private final int[] functions = new int[THINGS_MOST * FUNCTION_SIZE];
        private final long[] functionNames = new long[THINGS_MOST];
        int functionCount;
        private final int[] globals = new int[THINGS_MOST * GLOBAL_SIZE];
        int globalCount;
        private final int[] rows = new int[ROWS_MOST * ROW_SIZE];
        int rowCount;
        /** What lies in MEMORY at first, as far as GLOBALS and ROWS can reach. */
        private final byte[] memory = new byte[2048];
        int end;

        void clear() {
            nodeCount = 0;
            signsEnd = 0;
            variableCount = 0;
            functionCount = 0;
            globalCount = 0;
            rowCount = 0;
            end = GLOBALS_FROM;
            Arrays.fill(memory, (byte) 0);
        }

        int newNode(int kind, int at, int first) {
            if (nodeCount >= TOKENS_MOST) {
                return NONE;
            }
            int n = nodeCount;
            nodeCount++;
            Arrays.fill(nodes, n * NODE, n * NODE + NODE, NONE);
            nodes[n * NODE + KIND] = kind;
            nodes[n * NODE + AT] = at;
            nodes[n * NODE + FIRST] = first;
            nodes[n * NODE + DEEP] = 1;
            numbers[n] = 0;
            return n;
        }

        int node(int n, int field) {
            return n >= 0 && n < nodeCount && field >= 0 && field < NODE ? nodes[n * NODE + field] : NONE;
        }

        void setNode(int n, int field, int what) {
            if (n >= 0 && n < nodeCount && field >= 0 && field < NODE) {
                nodes[n * NODE + field] = what;
            }
        }

        int kind(int n) {
            return node(n, KIND);
        }

        /** What stands behind a node in its row: an item of a block, an exp of a call, a constant. */
        int next(int n) {
            return n >= 0 && n < nodeCount ? nodes[n * NODE + NEXT] : NONE;
        }

        long number(int n) {
            return n >= 0 && n < nodeCount ? numbers[n] : 0;
        }

        void setNumber(int n, long number) {
            if (n >= 0 && n < nodeCount) {
                numbers[n] = number;
            }
        }

        int newVariable(int type) {
            if (variableCount >= THINGS_MOST) {
                return NONE;
            }
            int from = variableCount * VARIABLE_SIZE;
            variables[from + V_TYPE] = type;
            variables[from + V_CELLS] = 0;
            variables[from + V_OFFSET] = NONE;
            variableCount++;
            return variableCount - 1;
        }

        int variable(int v, int field) {
            return v >= 0 && v < variableCount && field >= 0 && field < VARIABLE_SIZE
                ? variables[v * VARIABLE_SIZE + field] : NONE;
        }

        void setVariable(int v, int field, int what) {
            if (v >= 0 && v < variableCount && field >= 0 && field < VARIABLE_SIZE) {
                variables[v * VARIABLE_SIZE + field] = what;
            }
        }

        int newFunction(long name, int place) {
            if (functionCount >= THINGS_MOST) {
                return NONE;
            }
            int from = functionCount * FUNCTION_SIZE;
            Arrays.fill(functions, from, from + FUNCTION_SIZE, 0);
            functions[from + F_BODY] = NONE;
            functions[from + F_SIGN] = NONE;
            functions[from + F_PLACE] = place;
            functionNames[functionCount] = name;
            functionCount++;
            return functionCount - 1;
        }

        int function(int f, int field) {
            return f >= 0 && f < functionCount && field >= 0 && field < FUNCTION_SIZE
                ? functions[f * FUNCTION_SIZE + field] : NONE;
        }

        void setFunction(int f, int field, int what) {
            if (f >= 0 && f < functionCount && field >= 0 && field < FUNCTION_SIZE) {
                functions[f * FUNCTION_SIZE + field] = what;
            }
        }

        long functionName(int f) {
            return f >= 0 && f < functionCount ? functionNames[f] : 0;
        }

        int newGlobal(int type) {
            if (globalCount >= THINGS_MOST) {
                return NONE;
            }
            int from = globalCount * GLOBAL_SIZE;
            globals[from + G_TYPE] = type;
            globals[from + G_CELLS] = 0;
            globals[from + G_PLACE] = 0;
            globals[from + G_FIRST] = NONE;
            globalCount++;
            return globalCount - 1;
        }

        int global(int g, int field) {
            return g >= 0 && g < globalCount && field >= 0 && field < GLOBAL_SIZE
                ? globals[g * GLOBAL_SIZE + field] : NONE;
        }

        void setGlobal(int g, int field, int what) {
            if (g >= 0 && g < globalCount && field >= 0 && field < GLOBAL_SIZE) {
                globals[g * GLOBAL_SIZE + field] = what;
            }
        }

        int row(int r, int field) {
            return r >= 0 && r < ROWS_MOST && field >= 0 && field < ROW_SIZE ? rows[r * ROW_SIZE + field] : NONE;
        }

        void setRow(int r, int field, int what) {
            if (r >= 0 && r < ROWS_MOST && field >= 0 && field < ROW_SIZE) {
                rows[r * ROW_SIZE + field] = what;
            }
        }

        int firstMemory(int place) {
            return place >= 0 && place < memory.length ? memory[place] & 255 : 0;
        }

        /** The FUNCTION POINTER of a result and types: the same number for the same ones. */
        int pointerTo(int result, int[] types, int many) {
            for (int from = 0; from + 1 < signsEnd; from += 2 + signs[from + 1]) {
                if (isSign(from, result, types, many)) {
                    return -2 - from;
                }
            }
            int from = signsEnd;
            if (many < 0 || many > types.length || from + 2 + many > signs.length) {
                return -2;
            }
            signs[from] = result;
            signs[from + 1] = many;
            System.arraycopy(types, 0, signs, from + 2, many);
            signsEnd = from + 2 + many;
            return -2 - from;
        }

        private boolean isSign(int from, int result, int[] types, int many) {
            if (signs[from] != result || signs[from + 1] != many) {
                return false;
            }
            for (int k = 0; k < many && k < types.length && from + 2 + k < signsEnd; k++) {
                if (signs[from + 2 + k] != types[k]) {
                    return false;
                }
            }
            return true;
        }

        int resultOf(int pointer) {
            int from = -2 - pointer;
            return from >= 0 && from < signsEnd ? signs[from] : T_VOID;
        }

        int parametersOf(int pointer) {
            int from = -2 - pointer;
            return from >= 0 && from + 1 < signsEnd ? signs[from + 1] : 0;
        }

        int parameterOf(int pointer, int k) {
            int at = -2 - pointer + 2 + k;
            return pointer <= -2 && k >= 0 && at < signsEnd ? signs[at] : T_INT;
        }

        static boolean isArithmetic(int type) {
            return type == T_INT || type == T_LONG;
        }

        static boolean isPointer(int type) {
            return type > POINTER;
        }

        static boolean isFunctionPointer(int type) {
            return type <= -2;
        }

        /** The type of what is read: a char is an int then. */
        static int asRead(int type) {
            return type == T_CHAR ? T_INT : type;
        }

        static int sizeOf(int type) {
            return type == T_CHAR ? 1 : type == T_LONG ? 8 : type == T_VOID ? 0 : 4;
        }

        /** The SIZE of that to which a pointer points. */
        static int stepOf(int pointer) {
            int type = pointer - POINTER;
            return type == T_CHAR ? 1 : type == T_LONG ? 8 : 4;
        }

        static int both(int one, int other) {
            return one == T_LONG || other == T_LONG ? T_LONG : T_INT;
        }

        static int upTo(int place, int size) {
            return size > 1 ? place + (size - place % size) % size : place;
        }

        static long converted(long number, int type) {
            return type == T_LONG ? number : type == T_CHAR ? number & 255 : (int) number;
        }

        /** The type with which a named thing is told; NONE of get and put. */
        int namedType(int n) {
            int what = node(n, A);
            int binding = node(n, B);
            if (binding == VARIABLE) {
                return variable(what, V_TYPE);
            }
            if (binding == GLOBAL) {
                return global(what, G_TYPE);
            }
            return binding == FUNCTION ? function(what, F_SIGN) : NONE;
        }

        int namedCells(int n) {
            int binding = node(n, B);
            return binding == VARIABLE ? variable(node(n, A), V_CELLS)
                : binding == GLOBAL ? global(node(n, A), G_CELLS) : 0;
        }

        boolean isLoose(int n) {
            return node(n, KIND) == E_NAME && node(n, B) == VARIABLE && variable(node(n, A), V_OFFSET) == NONE;
        }

        /** How many of the variables of a function are PLACED. */
        int placedIn(int f) {
            int many = function(f, F_PARAMETERS) + function(f, F_LOCALS);
            int placed = 0;
            for (int k = 0; k < many; k++) {
                placed = variable(function(f, F_VARIABLES) + k, V_OFFSET) != NONE ? placed + 1 : placed;
            }
            return placed;
        }

        boolean canBeAsked(int f) {
            int many = function(f, F_PARAMETERS);
            boolean can = many <= 3;
            for (int k = 0; k < many && k < 3; k++) {
                int type = variable(function(f, F_VARIABLES) + k, V_TYPE);
                can = can && type >= T_INT && type <= T_LONG;
            }
            return can;
        }

        /** Gives all things their places, when the text is known to be without a fault. */
        void layOut(byte[] text) {
            for (int f = 0; f < functionCount; f++) {
                layOutVariables(f);
            }
            for (int g = 0; g < globalCount; g++) {
                if (kind(global(g, G_FIRST)) == E_ROW && global(g, G_CELLS) > 0) {
                    setRow(node(global(g, G_FIRST), A), R_PLACE, global(g, G_PLACE));
                }
            }
            for (int r = 0; r < rowCount && r < ROWS_MOST; r++) {
                layOutRow(r, text);
            }
            for (int g = 0; g < globalCount; g++) {
                layOutFirst(g);
            }
        }

        private void layOutVariables(int f) {
            int from = function(f, F_VARIABLES);
            int many = function(f, F_PARAMETERS) + function(f, F_LOCALS);
            int offset = 0;
            for (int k = 0; k < many; k++) {
                if (variable(from + k, V_OFFSET) != NONE) {
                    int size = sizeOf(variable(from + k, V_TYPE));
                    offset = upTo(offset, size);
                    setVariable(from + k, V_OFFSET, offset);
                    offset += size * Math.max(1, variable(from + k, V_CELLS));
                }
            }
            setFunction(f, F_FRAME, upTo(offset, 8));
        }

        private void layOutRow(int r, byte[] text) {
            int length = row(r, R_LENGTH);
            if (row(r, R_PLACE) == NONE) {
                setRow(r, R_PLACE, end);
                end += length + 1;
            }
            for (int k = 0; k < length; k++) {
                int from = row(r, R_START) + k;
                putByte(row(r, R_PLACE) + k, from >= 0 && from < text.length ? text[from] : 0);
            }
        }

        private void layOutFirst(int g) {
            int first = global(g, G_FIRST);
            int place = global(g, G_PLACE);
            int size = sizeOf(global(g, G_TYPE));
            if (kind(first) == F_BRACES) {
                int cell = node(first, A);
                for (int k = 0; k < global(g, G_CELLS) && cell != NONE; k++) {
                    putNumber(place + k * size, size, number(cell));
                    cell = node(cell, NEXT);
                }
            } else if (kind(first) == E_ROW && global(g, G_CELLS) == 0) {
                putNumber(place, size, row(node(first, A), R_PLACE));
            } else if (kind(first) == E_NAME) {
                putNumber(place, size, node(first, A) + 1);
            } else if (kind(first) == E_NUMBER || kind(first) == E_CHARACTER) {
                putNumber(place, size, number(first));
            }
        }

        private void putNumber(int place, int size, long number) {
            for (int k = 0; k < size; k++) {
                putByte(place + k, (int) (number >> 8 * k));
            }
        }

        private void putByte(int place, int what) {
            if (place >= 0 && place < memory.length) {
                memory[place] = (byte) what;
            }
        }
    }

    /**
     * Reads a text without going back. A token that cannot stand is told by an exception, the
     * cursor staying on it; faults of the second kind are kept as the least of their places.
     */
    private static final class Parser {
        private static final int NO_PLACE = 10000;
        final Tokens tokens = new Tokens();
        boolean isExamined;
        int kind;
        int place = NONE;
        private Program program;
        private int pos;
        private int opened;
        private int laterFault;
        private final long[] names = new long[TOKENS_MOST];
        private final int[] bound = new int[TOKENS_MOST];
        private int boundCount;
        private int block;
        private int loops;
        private int breakables;
        private int locals;
        private final int[] types = new int[TOKENS_MOST];
        private long varName;
        private int varPlace;

        void prepare(Program into) {
            program = into;
            program.clear();
            pos = 0;
            opened = 0;
            laterFault = NO_PLACE;
            boundCount = 0;
            block = 0;
            loops = 0;
            breakables = 0;
            locals = 0;
            bind(Tokens.packed("get"), GET * BINDING);
            bind(Tokens.packed("put"), PUT * BINDING);
        }

        int placeAtHand() {
            return pos < tokens.count ? tokens.places[pos] : NONE;
        }

        /** The first fault of the second kind. */
        int secondKind() {
            for (int f = 0; f < program.functionCount; f++) {
                if (program.function(f, F_BODY) == NONE) {
                    later(program.function(f, F_PLACE));
                }
            }
            return laterFault < NO_PLACE ? laterFault : NONE;
        }

        void things() {
            for (int k = 0; k < MANY && token() != END; k++) {
                int result = word(true);
                if (token() != NAME) {
                    int told = pointer(result);
                    global(program.pointerTo(result, types, told), false);
                } else {
                    nameAtHand();
                    if (token() == '(' || result == T_VOID) {
                        function(result);
                    } else {
                        global(result, true);
                    }
                }
            }
        }

        private void later(int place) {
            laterFault = Math.min(laterFault, place);
        }

        private int token() {
            return pos < TOKENS_MOST ? tokens.kinds[pos] : END;
        }

        private void take(int wanted) {
            if (pos >= TOKENS_MOST || tokens.kinds[pos] != wanted) {
                throw new IllegalStateException("a token that cannot stand there");
            }
            pos++;
        }

        private void open(int wanted) {
            if (pos >= TOKENS_MOST || tokens.kinds[pos] != wanted || opened >= OPEN_MOST) {
                throw new IllegalStateException("a token that cannot open there");
            }
            pos++;
            opened++;
        }

        private void close(int wanted) {
            if (pos >= TOKENS_MOST || tokens.kinds[pos] != wanted) {
                throw new IllegalStateException("a token that cannot close there");
            }
            pos++;
            opened--;
        }

        private static boolean isType(int token) {
            return token == W_INT || token == W_CHAR || token == W_LONG;
        }

        /** A type, or a result. */
        private int word(boolean orVoid) {
            int token = pos < TOKENS_MOST ? tokens.kinds[pos] : END;
            if (token == W_VOID && orVoid) {
                pos++;
                return T_VOID;
            }
            if (token != W_INT && token != W_CHAR && token != W_LONG) {
                throw new IllegalStateException("no type stands there");
            }
            int type = token == W_INT ? T_INT : token == W_CHAR ? T_CHAR : T_LONG;
            pos++;
            for (; pos < TOKENS_MOST && tokens.kinds[pos] == '*'; pos++) {
                type += POINTER;
            }
            return type;
        }

        private void nameAtHand() {
            int at = pos;
            take(NAME);
            varName = tokens.values[at];
            varPlace = tokens.places[at];
        }

        private int var() {
            int result = word(true);
            if (result != T_VOID && token() == NAME) {
                nameAtHand();
                return result;
            }
            int told = pointer(result);
            return program.pointerTo(result, types, told);
        }

        /** The name and the types of a FUNCTION POINTER; how many types it has. */
        private int pointer(int result) {
            open('(');
            take('*');
            varName = pos < TOKENS_MOST ? tokens.values[pos] : 0;
            varPlace = pos < TOKENS_MOST ? tokens.places[pos] : 0;
            take(NAME);
            close(')');
            open('(');
            int many = 0;
            boolean more = pos < TOKENS_MOST && tokens.kinds[pos] != ')';
            for (int k = 0; k < TOKENS_MOST && more; k++) {
                if (many == 5) {
                    laterFault = Math.min(laterFault, placeAtHand());
                }
                types[many] = word(false);
                many++;
                more = pos < TOKENS_MOST && tokens.kinds[pos] == ',';
                pos = more ? pos + 1 : pos;
            }
            close(')');
            return many;
        }

        private void bind(long name, int what) {
            if (boundCount < TOKENS_MOST) {
                names[boundCount] = name;
                bound[boundCount] = what;
                boundCount++;
            }
        }

        /** What binds a name nearest, looked for down to an entry. */
        private int boundTo(long name, int downTo) {
            for (int k = boundCount - 1; k >= downTo && k >= 0; k--) {
                if (names[k] == name) {
                    return bound[k];
                }
            }
            return NONE;
        }

        private void global(int type, boolean mayHaveCells) {
            int at = varPlace;
            long name = varName;
            boolean isNew = boundTo(name, 0) == NONE;
            if (!isNew) {
                later(at);
            }
            int g = program.newGlobal(type);
            if (isNew) {
                bind(name, GLOBAL * BINDING + Math.max(0, g));
            }
            int cells = mayHaveCells && token() == '[' ? cells() : 0;
            int size = Program.sizeOf(type);
            int from = Program.upTo(program.end, size);
            program.setGlobal(g, G_CELLS, cells);
            program.setGlobal(g, G_PLACE, from);
            program.end = from + size * Math.max(1, cells);
            if (program.globalCount > 12 || program.end > GLOBALS_FROM + 1600) {
                later(at);
            }
            if (token() == '=') {
                pos++;
                program.setGlobal(g, G_FIRST, first());
            }
            take(';');
        }

        private int cells() {
            open('[');
            long many = pos < TOKENS_MOST ? tokens.values[pos] : 0;
            boolean isGood = token() == NUMBER && many >= 1 && many <= 200;
            if (!isGood) {
                later(placeAtHand());
            }
            take(token() == LONG_NUMBER ? LONG_NUMBER : NUMBER);
            close(']');
            return isGood ? (int) many : 1;
        }

        private int first() {
            if (token() == ROW) {
                return row();
            }
            if (token() == NAME) {
                return named();
            }
            if (token() != '{') {
                return constant();
            }
            int n = program.newNode(F_BRACES, placeAtHand(), placeAtHand());
            open('{');
            int last = NONE;
            int many = 0;
            boolean more = true;
            for (int k = 0; k < TOKENS_MOST && more; k++) {
                int cell = constant();
                program.setNode(last == NONE ? n : last, last == NONE ? A : NEXT, cell);
                last = cell;
                many++;
                more = token() == ',';
                pos = more ? pos + 1 : pos;
            }
            close('}');
            program.setNode(n, C, many);
            return n;
        }

        /** A constant; D tells whether a - stands ahead of it. */
        private int constant() {
            int at = placeAtHand();
            boolean isMinus = token() == '-';
            if (isMinus) {
                pos++;
            }
            int token = token();
            long number = pos < TOKENS_MOST ? tokens.values[pos] : 0;
            boolean isCharacter = token == CHARACTER && !isMinus;
            take(token == LONG_NUMBER || isCharacter ? token : NUMBER);
            int n = program.newNode(isCharacter ? E_CHARACTER : E_NUMBER, at, at);
            program.setNode(n, TYPE, token == LONG_NUMBER ? T_LONG : T_INT);
            program.setNode(n, D, isMinus ? 1 : 0);
            program.setNumber(n, isMinus ? -number : number);
            return n;
        }

        /** A function that is told again wrongly is read on as one that nothing binds. */
        private void function(int result) {
            int at = varPlace;
            int known = boundTo(varName, 0);
            int f = known / BINDING == FUNCTION ? known % BINDING : NONE;
            if (known == NONE) {
                f = program.newFunction(varName, at);
                bind(varName, FUNCTION * BINDING + Math.max(0, f));
            }
            int mark = boundCount;
            int from = program.variableCount;
            block = mark;
            locals = 0;
            int parameters = parameters();
            int sign = signOf(result, from, parameters);
            if (known == NONE) {
                program.setFunction(f, F_SIGN, sign);
            }
            boolean isSame = program.function(f, F_SIGN) == sign;
            if (!isSame || known == NONE && program.functionCount > 12) {
                later(at);
            }
            if (token() == ';') {
                pos++;
                program.variableCount = from;
            } else {
                boolean isFirstBody = isSame && program.function(f, F_BODY) == NONE;
                if (!isFirstBody) {
                    later(at);
                }
                int body = braces();
                if (isFirstBody) {
                    program.setFunction(f, F_BODY, body);
                    program.setFunction(f, F_VARIABLES, from);
                    program.setFunction(f, F_PARAMETERS, parameters);
                    program.setFunction(f, F_LOCALS, locals);
                }
            }
            boundCount = mark;
            block = 0;
        }

        private int parameters() {
            open('(');
            int many = 0;
            boolean more = token() != ')';
            for (int k = 0; k < TOKENS_MOST && more; k++) {
                declare(var());
                many++;
                if (many > 5) {
                    later(varPlace);
                }
                more = token() == ',';
                pos = more ? pos + 1 : pos;
            }
            close(')');
            return many;
        }

        private int signOf(int result, int from, int many) {
            for (int k = 0; k < many && k < types.length; k++) {
                types[k] = program.variable(from + k, V_TYPE);
            }
            return program.pointerTo(result, types, many);
        }

        /** The variable that was told by var(), or by a type and its name. */
        private int declare(int type) {
            if (boundTo(varName, block) != NONE) {
                later(varPlace);
            }
            int v = program.newVariable(type);
            bind(varName, VARIABLE * BINDING + Math.max(0, v));
            return v;
        }

        private int braces() {
            int n = program.newNode(S_BLOCK, placeAtHand(), placeAtHand());
            open('{');
            program.setNode(n, A, items(false));
            close('}');
            return n;
        }

        /** Items up to the closing brace, one behind the other; labels stand among those of a switch. */
        private int items(boolean isSwitch) {
            int first = NONE;
            int last = NONE;
            for (int k = 0; k < TOKENS_MOST && token() != '}'; k++) {
                boolean isLabel = isSwitch && (first == NONE || token() == W_CASE || token() == W_DEFAULT);
                int n = isLabel ? label(first) : item();
                program.setNode(last, NEXT, n);
                first = first == NONE ? n : first;
                last = n;
            }
            return first;
        }

        /** A label; one that its switch has already, or of which that has too many, is a fault. */
        private int label(int first) {
            int at = placeAtHand();
            boolean isDefault = token() == W_DEFAULT;
            take(isDefault ? W_DEFAULT : W_CASE);
            int n = program.newNode(isDefault ? S_DEFAULT : S_CASE, at, at);
            if (!isDefault) {
                int constant = constant();
                program.setNumber(n, program.number(constant));
                program.setNode(n, TYPE, program.node(constant, TYPE));
            }
            take(':');
            int many = 1;
            for (int s = first, left = TOKENS_MOST; s != NONE && left > 0; s = program.next(s), left--) {
                int kind = program.kind(s);
                many = kind == S_CASE || kind == S_DEFAULT ? many + 1 : many;
                if (kind == program.kind(n) && program.number(s) == program.number(n)
                    && (kind == S_DEFAULT || kind == S_CASE)) {
                    later(at);
                }
            }
            if (many > 12) {
                later(at);
            }
            return n;
        }

        private int item() {
            int token = token();
            if (!isType(token) && token != W_VOID) {
                return statement();
            }
            int v = declare(var());
            int n = program.newNode(S_LOCAL, varPlace, varPlace);
            program.setNode(n, A, v);
            locals++;
            if (locals > 20) {
                later(varPlace);
            }
            boolean canHaveCells = !Program.isFunctionPointer(program.variable(v, V_TYPE));
            if (canHaveCells && token() == '[') {
                program.setVariable(v, V_CELLS, cells());
                program.setVariable(v, V_OFFSET, 0);
            } else if (token() == '=') {
                pos++;
                program.setNode(n, B, exp());
            }
            take(';');
            return n;
        }

        private int statement() {
            int at = placeAtHand();
            switch (token()) {
                case '{':
                    return blockStatement();
                case ';':
                    pos++;
                    return program.newNode(S_EMPTY, at, at);
                case W_IF:
                    return ifStatement();
                case W_WHILE:
                case W_DO:
                case W_FOR:
                    return loopStatement();
                case W_SWITCH:
                    return switchStatement();
                case W_BREAK:
                case W_CONTINUE:
                    return leavingStatement();
                case W_RETURN:
                    int leaving = program.newNode(S_RETURN, at, at);
                    pos++;
                    program.setNode(leaving, A, token() == ';' ? NONE : exp());
                    take(';');
                    return leaving;
                default:
                    int n = program.newNode(S_EXP, at, at);
                    program.setNode(n, A, exp());
                    take(';');
                    return n;
            }
        }

        private int blockStatement() {
            int mark = boundCount;
            int outer = block;
            block = mark;
            int n = braces();
            block = outer;
            boundCount = mark;
            return n;
        }

        private int ifStatement() {
            int n = program.newNode(S_IF, placeAtHand(), placeAtHand());
            open(W_IF);
            open('(');
            program.setNode(n, A, exp());
            close(')');
            program.setNode(n, B, statement());
            if (token() == W_ELSE) {
                pos++;
                program.setNode(n, C, statement());
            }
            opened--;
            return n;
        }

        private int loopStatement() {
            int token = token();
            int kind = token == W_WHILE ? S_WHILE : token == W_DO ? S_DO : S_FOR;
            int n = program.newNode(kind, placeAtHand(), placeAtHand());
            open(token);
            if (kind == S_WHILE) {
                open('(');
                program.setNode(n, A, exp());
                close(')');
            }
            if (kind == S_FOR) {
                open('(');
                program.setNode(n, A, token() == ';' ? NONE : exp());
                take(';');
                program.setNode(n, B, token() == ';' ? NONE : exp());
                take(';');
                program.setNode(n, C, token() == ')' ? NONE : exp());
                close(')');
            }
            loops++;
            breakables++;
            program.setNode(n, D, statement());
            loops--;
            breakables--;
            if (kind == S_DO) {
                take(W_WHILE);
                open('(');
                program.setNode(n, A, exp());
                close(')');
                take(';');
            }
            opened--;
            return n;
        }

        private int switchStatement() {
            int n = program.newNode(S_SWITCH, placeAtHand(), placeAtHand());
            open(W_SWITCH);
            open('(');
            program.setNode(n, A, exp());
            close(')');
            open('{');
            int mark = boundCount;
            int outer = block;
            block = mark;
            breakables++;
            program.setNode(n, B, items(true));
            breakables--;
            block = outer;
            boundCount = mark;
            close('}');
            opened--;
            return n;
        }

        private int leavingStatement() {
            boolean isBreak = token() == W_BREAK;
            int n = program.newNode(isBreak ? S_BREAK : S_CONTINUE, placeAtHand(), placeAtHand());
            if ((isBreak ? breakables : loops) == 0) {
                later(placeAtHand());
            }
            pos++;
            take(';');
            return n;
        }

        private static boolean isAssign(int token) {
            return token == '=' || token > 255 && (token & 255) == '=' && token != EQUAL && token != UNEQUAL
                && token != AT_MOST && token != AT_LEAST;
        }

        private int exp() {
            int left = choice();
            int sign = token();
            if (!isAssign(sign)) {
                return left;
            }
            int at = placeAtHand();
            open(sign);
            int right = exp();
            opened--;
            int n = parent(E_ASSIGN, at, program.node(left, FIRST), left, right);
            program.setNode(n, D, sign == '=' ? '=' : sign >> 8);
            return n;
        }

        private int choice() {
            int test = two(1);
            if (token() != '?') {
                return test;
            }
            int at = placeAtHand();
            open('?');
            int yes = exp();
            int colon = placeAtHand();
            take(':');
            int no = choice();
            opened--;
            int n = parent(E_CHOICE, at, program.node(test, FIRST), test, yes);
            program.setNode(n, C, no);
            program.setNode(n, D, colon);
            deepen(n, no);
            return n;
        }

        /** How near a sign of two sides binds; 0 of what is none. */
        private static int rank(int token) {
            switch (token) {
                case OR_OR:
                    return 1;
                case AND_AND:
                    return 2;
                case '|':
                    return 3;
                case '^':
                    return 4;
                case '&':
                    return 5;
                case EQUAL:
                case UNEQUAL:
                    return 6;
                case '<':
                case '>':
                case AT_MOST:
                case AT_LEAST:
                    return 7;
                case SHIFT_LEFT:
                case SHIFT_RIGHT:
                    return 8;
                case '+':
                case '-':
                    return 9;
                case '*':
                case '/':
                case '%':
                    return 10;
                default:
                    return 0;
            }
        }

        private int two(int least) {
            int left = unary();
            for (int k = 0; k < TOKENS_MOST && rank(token()) >= least; k++) {
                int sign = token();
                int at = placeAtHand();
                pos++;
                int right = two(rank(sign) + 1);
                int kind = sign == OR_OR ? E_EITHER : sign == AND_AND ? E_BOTH : E_TWO;
                left = parent(kind, at, program.node(left, FIRST), left, right);
                program.setNode(left, D, sign);
            }
            return left;
        }

        private static int unaryKind(int token) {
            switch (token) {
                case '-':
                case '!':
                case '~':
                    return E_SIGN;
                case '*':
                    return E_STAR;
                case '&':
                    return E_ADDRESS;
                case PLUS_PLUS:
                case MINUS_MINUS:
                    return E_AHEAD;
                default:
                    return NONE;
            }
        }

        private int unary() {
            int at = placeAtHand();
            int sign = token();
            int kind = unaryKind(sign);
            if (kind != NONE) {
                open(sign);
                int a = unary();
                opened--;
                int n = parent(kind, at, at, a, NONE);
                program.setNode(n, D, sign);
                if (kind == E_ADDRESS && program.kind(a) == E_NAME && program.node(a, B) == VARIABLE) {
                    program.setVariable(program.node(a, A), V_OFFSET, 0);
                }
                return n;
            }
            if (sign == '(' && pos + 1 < TOKENS_MOST && isType(tokens.kinds[pos + 1])) {
                open('(');
                int type = word(false);
                take(')');
                int n = parent(E_CAST, at, at, unary(), NONE);
                opened--;
                program.setNode(n, D, type);
                return n;
            }
            if (sign == W_SIZEOF) {
                pos++;
                open('(');
                int n = program.newNode(E_SIZEOF, at, at);
                program.setNumber(n, Program.sizeOf(word(false)));
                program.setNode(n, TYPE, T_INT);
                close(')');
                return n;
            }
            return post();
        }

        private int post() {
            int n = atom();
            boolean more = true;
            for (int k = 0; k < TOKENS_MOST && more; k++) {
                int at = placeAtHand();
                int sign = token();
                int first = program.node(n, FIRST);
                if (sign == '[') {
                    open('[');
                    int index = exp();
                    close(']');
                    n = parent(E_INDEX, at, first, n, index);
                } else if (sign == PLUS_PLUS || sign == MINUS_MINUS) {
                    pos++;
                    n = parent(E_BEHIND, at, first, n, NONE);
                    program.setNode(n, D, sign);
                } else {
                    more = false;
                }
            }
            return n;
        }

        private int atom() {
            int at = placeAtHand();
            switch (token()) {
                case NUMBER:
                case LONG_NUMBER:
                case CHARACTER:
                    return constant();
                case ROW:
                    return row();
                case NAME:
                    return pos + 1 < TOKENS_MOST && tokens.kinds[pos + 1] == '(' ? call() : named();
                default:
                    open('(');
                    int n = exp();
                    close(')');
                    program.setNode(n, FIRST, at);
                    return n;
            }
        }

        private int row() {
            int at = placeAtHand();
            int n = program.newNode(E_ROW, at, at);
            int r = program.rowCount;
            program.setRow(r, R_START, at + 1);
            program.setRow(r, R_LENGTH, pos < TOKENS_MOST ? (int) tokens.values[pos] : 0);
            program.setRow(r, R_PLACE, NONE);
            program.setNode(n, A, r);
            program.setNode(n, TYPE, T_CHAR + POINTER);
            program.rowCount++;
            if (program.rowCount > ROWS_MOST) {
                later(at);
            }
            take(ROW);
            return n;
        }

        private int named() {
            int at = placeAtHand();
            int n = program.newNode(E_NAME, at, at);
            int what = boundTo(pos < TOKENS_MOST ? tokens.values[pos] : 0, 0);
            if (what == NONE) {
                later(at);
            }
            program.setNode(n, A, what == NONE ? NONE : what % BINDING);
            program.setNode(n, B, what == NONE ? NONE : what / BINDING);
            take(NAME);
            return n;
        }

        /** The node comes ahead of those of its exps: calls are numbered by the tokens of their names. */
        private int call() {
            int n = named();
            program.setNode(n, KIND, E_CALL);
            open('(');
            int last = NONE;
            int many = 0;
            boolean more = token() != ')';
            for (int k = 0; k < TOKENS_MOST && more; k++) {
                int part = exp();
                program.setNode(last == NONE ? n : last, last == NONE ? C : NEXT, part);
                deepen(n, part);
                last = part;
                many++;
                more = token() == ',';
                pos = more ? pos + 1 : pos;
            }
            close(')');
            program.setNode(n, D, many);
            return n;
        }

        private int parent(int kind, int at, int first, int a, int b) {
            int n = program.newNode(kind, at, first);
            int deep = Math.max(program.node(a, DEEP), program.node(b, DEEP)) + 1;
            program.setNode(n, A, a);
            program.setNode(n, B, b);
            program.setNode(n, DEEP, deep);
            if (deep > DEEP_MOST) {
                later(at);
            }
            return n;
        }

        private void deepen(int n, int part) {
            int deep = Math.max(program.node(n, DEEP), program.node(part, DEEP) + 1);
            program.setNode(n, DEEP, deep);
            if (deep > DEEP_MOST) {
                laterFault = Math.min(laterFault, program.node(n, AT));
            }
        }
    }

    /** Gives the exps of a text their types; keeps the first place at which section 3 is broken. */
    private static final class Checker {
        private static final int NO_PLACE = 10000;
        private Program program;
        private int result;
        private int faultAt;

        /** The place of the first fault of the third kind. */
        int check(Program p) {
            program = p;
            faultAt = NO_PLACE;
            for (int g = 0; g < p.globalCount; g++) {
                first(g);
            }
            for (int f = 0; f < p.functionCount; f++) {
                result = p.resultOf(p.function(f, F_SIGN));
                statement(p.function(f, F_BODY));
            }
            return faultAt < NO_PLACE ? faultAt : NONE;
        }

        private int wrong(int place) {
            faultAt = Math.min(faultAt, place);
            return NONE;
        }

        private void first(int g) {
            int n = program.global(g, G_FIRST);
            if (n != NONE && !isGoodFirst(n, program.global(g, G_TYPE), program.global(g, G_CELLS))) {
                wrong(program.node(n, FIRST));
            }
        }

        private boolean isGoodFirst(int n, int type, int cells) {
            int kind = program.kind(n);
            boolean isNumeric = type >= T_INT && type <= T_LONG;
            if (cells > 0) {
                boolean fits = kind == F_BRACES && program.node(n, C) <= cells;
                boolean isText = type == T_CHAR && kind == E_ROW && program.row(program.node(n, A), R_LENGTH) < cells;
                return isNumeric && (fits || isText);
            }
            if (isNumeric) {
                return kind == E_NUMBER || kind == E_CHARACTER;
            }
            if (isZero(n) && program.node(n, D) == 0) {
                return true;
            }
            if (Program.isPointer(type)) {
                return type == T_CHAR + POINTER && kind == E_ROW;
            }
            return kind == E_NAME && program.node(n, B) == FUNCTION && program.namedType(n) == type;
        }

        private void statement(int n) {
            int a = program.node(n, A);
            int fitting = NONE;
            int wanted = result;
            switch (program.kind(n)) {
                case S_BLOCK:
                    for (int s = a, left = TOKENS_MOST; s != NONE && left > 0; s = program.next(s), left--) {
                        statement(s);
                    }
                    break;
                case S_EXP:
                    exp(a);
                    break;
                case S_IF:
                    tested(a, exp(a));
                    statement(program.node(n, B));
                    statement(program.node(n, C));
                    break;
                case S_WHILE:
                case S_DO:
                    tested(a, exp(a));
                    statement(program.node(n, D));
                    break;
                case S_FOR:
                    exp(a);
                    tested(program.node(n, B), exp(program.node(n, B)));
                    exp(program.node(n, C));
                    statement(program.node(n, D));
                    break;
                case S_SWITCH:
                    int type = exp(a);
                    if (type != NONE && Program.asRead(type) != T_INT) {
                        wrong(program.node(a, FIRST));
                    }
                    for (int s = program.node(n, B), left = TOKENS_MOST; s != NONE && left > 0; s = program.next(s), left--) {
                        statement(s);
                    }
                    break;
                case S_CASE:
                    if (program.node(n, TYPE) == T_LONG) {
                        wrong(program.node(n, AT));
                    }
                    break;
                case S_RETURN:
                    if ((a == NONE) != (result == T_VOID)) {
                        wrong(program.node(n, AT));
                    }
                    fitting = a;
                    break;
                case S_LOCAL:
                    fitting = program.node(n, B);
                    wanted = program.variable(a, V_TYPE);
                    break;
                default:
                    break;
            }
            if (exp(fitting) != NONE && wanted != T_VOID && !converts(fitting, wanted)) {
                wrong(program.node(fitting, FIRST));
            }
        }

        private void tested(int n, int type) {
            if (type == T_VOID) {
                wrong(program.node(n, FIRST));
            }
        }

        /** Whether an exp is the NUMBER 0 alone. */
        private boolean isZero(int n) {
            return program.node(n, KIND) == E_NUMBER && program.number(n) == 0 && program.node(n, TYPE) == T_INT
                && program.node(n, FIRST) == program.node(n, AT);
        }

        private boolean converts(int n, int type) {
            int own = Program.asRead(program.node(n, TYPE));
            if (Program.isArithmetic(own) && Program.isArithmetic(Program.asRead(type))) {
                return true;
            }
            boolean points = Program.isPointer(type) || Program.isFunctionPointer(type);
            return points && (own == type || isZero(n));
        }

        private boolean isPlace(int n) {
            int kind = program.kind(n);
            int binding = program.node(n, B);
            return kind == E_STAR || kind == E_INDEX
                || kind == E_NAME && (binding == VARIABLE || binding == GLOBAL) && program.namedCells(n) == 0;
        }

        /** The type of an exp, as it is told ahead of being read; NONE of one without. */
        private int exp(int n) {
            int type = typed(n);
            program.setNode(n, TYPE, type);
            return type;
        }

        private int typed(int n) {
            int a = program.node(n, A);
            switch (program.kind(n)) {
                case E_NUMBER:
                case E_CHARACTER:
                case E_ROW:
                case E_SIZEOF:
                    return program.node(n, TYPE);
                case E_NAME:
                    return name(n);
                case E_CALL:
                    return call(n);
                case E_INDEX:
                case E_TWO:
                case E_BOTH:
                case E_EITHER:
                case E_ASSIGN:
                    return ofTwo(n);
                case E_CHOICE:
                    return choice(n);
                case E_STAR:
                case E_ADDRESS:
                case E_SIGN:
                case E_AHEAD:
                case E_BEHIND:
                case E_CAST:
                    return ofOne(n, a);
                default:
                    return NONE;
            }
        }

        private int name(int n) {
            int binding = program.node(n, B);
            if (binding == GET || binding == PUT) {
                return wrong(program.node(n, AT));
            }
            int type = program.namedType(n);
            return program.namedCells(n) > 0 ? type + POINTER : type;
        }

        private int ofOne(int n, int a) {
            int part = exp(a);
            if (part == NONE) {
                return NONE;
            }
            int read = Program.asRead(part);
            int sign = program.node(n, D);
            int at = program.node(n, AT);
            boolean canStep = Program.isArithmetic(read) || Program.isPointer(read);
            switch (program.kind(n)) {
                case E_STAR:
                    return Program.isPointer(part) ? part - POINTER : wrong(at);
                case E_ADDRESS:
                    return isPlace(a) && !Program.isFunctionPointer(part) ? part + POINTER : wrong(at);
                case E_SIGN:
                    if (sign == '!') {
                        return part != T_VOID ? T_INT : wrong(at);
                    }
                    return Program.isArithmetic(read) ? read : wrong(at);
                case E_CAST:
                    return canStep ? Program.asRead(sign) : wrong(at);
                default:
                    return isPlace(a) && canStep ? read : wrong(at);
            }
        }

        private int ofTwo(int n) {
            int a = program.node(n, A);
            int b = program.node(n, B);
            int one = exp(a);
            int other = exp(b);
            if (one == NONE || other == NONE) {
                return NONE;
            }
            int sign = program.node(n, D);
            int at = program.node(n, AT);
            int type;
            switch (program.kind(n)) {
                case E_INDEX:
                    return Program.isPointer(one) && Program.asRead(other) == T_INT ? one - POINTER : wrong(at);
                case E_BOTH:
                case E_EITHER:
                    return one != T_VOID && other != T_VOID ? T_INT : wrong(at);
                case E_ASSIGN:
                    if (sign == '=') {
                        return isPlace(a) && converts(b, one) ? Program.asRead(one) : wrong(at);
                    }
                    type = signed(sign, Program.asRead(one), Program.asRead(other), a, b);
                    boolean fits = type == one || Program.isArithmetic(type) && Program.isArithmetic(Program.asRead(one));
                    return isPlace(a) && type != NONE && fits ? Program.asRead(one) : wrong(at);
                default:
                    type = signed(sign, Program.asRead(one), Program.asRead(other), a, b);
                    return type != NONE ? type : wrong(at);
            }
        }

        /** The type of what a sign makes of two types, as they are read; NONE if it cannot. */
        private int signed(int sign, int one, int other, int a, int b) {
            boolean areNumbers = Program.isArithmetic(one) && Program.isArithmetic(other);
            boolean isSamePointer = Program.isPointer(one) && one == other;
            switch (sign) {
                case SHIFT_LEFT:
                case SHIFT_RIGHT:
                    return areNumbers ? one : NONE;
                case '+':
                case '-':
                    if (areNumbers) {
                        return Program.both(one, other);
                    }
                    if (Program.isPointer(one) && other == T_INT) {
                        return one;
                    }
                    if (sign == '+') {
                        return one == T_INT && Program.isPointer(other) ? other : NONE;
                    }
                    return isSamePointer ? T_INT : NONE;
                case '<':
                case '>':
                case AT_MOST:
                case AT_LEAST:
                    return areNumbers || isSamePointer ? T_INT : NONE;
                case EQUAL:
                case UNEQUAL:
                    boolean isOne = Program.isPointer(one) || Program.isFunctionPointer(one);
                    boolean isOther = Program.isPointer(other) || Program.isFunctionPointer(other);
                    boolean can = areNumbers || isOne && (one == other || isZero(b)) || isOther && isZero(a);
                    return can ? T_INT : NONE;
                default:
                    return areNumbers ? Program.both(one, other) : NONE;
            }
        }

        private int choice(int n) {
            int yes = program.node(n, B);
            int no = program.node(n, C);
            int test = exp(program.node(n, A));
            int one = Program.asRead(exp(yes));
            int other = Program.asRead(exp(no));
            if (test == NONE || one == NONE || other == NONE) {
                return NONE;
            }
            if (test == T_VOID) {
                return wrong(program.node(n, AT));
            }
            if (Program.isArithmetic(one) && Program.isArithmetic(other)) {
                return Program.both(one, other);
            }
            if (!Program.isArithmetic(one) && converts(no, one)) {
                return one;
            }
            if (!Program.isArithmetic(other) && converts(yes, other)) {
                return other;
            }
            return wrong(program.node(n, D));
        }

        private int call(int n) {
            boolean isWhole = true;
            for (int part = program.node(n, C), left = TOKENS_MOST; part != NONE && left > 0; part = program.next(part), left--) {
                isWhole = exp(part) != NONE && isWhole;
            }
            if (!isWhole) {
                return NONE;
            }
            int binding = program.node(n, B);
            boolean isOwn = binding != GET && binding != PUT;
            int type = program.namedType(n);
            boolean canBeCalled = !isOwn || Program.isFunctionPointer(type) && program.namedCells(n) == 0;
            int wanted = isOwn ? program.parametersOf(type) : binding == PUT ? 1 : 0;
            if (!canBeCalled || wanted != program.node(n, D)) {
                return wrong(program.node(n, AT));
            }
            int k = 0;
            for (int part = program.node(n, C), left = TOKENS_MOST; part != NONE && left > 0; part = program.next(part), left--) {
                if (!converts(part, isOwn ? program.parameterOf(type, k) : T_INT)) {
                    wrong(program.node(part, FIRST));
                    isWhole = false;
                }
                k++;
            }
            if (!isWhole) {
                return NONE;
            }
            return binding == GET ? T_INT : binding == PUT ? T_VOID : Program.asRead(program.resultOf(type));
        }
    }

    /**
     * Carries a text out by its tree. What is still to be done lies on a row of tasks (a node and a
     * mode), and not in calls of Java, so that calls of calls need no room there.
     */
    private static final class Meaning {
        private static final int DO = 0;
        private static final int PLACE = 1;
        private static final int SECOND = 2;
        private static final int FINISH = 3;
        private static final int AGAIN = 4;
        private static final int FORGET = 5;
        private static final int INDEXED = 6;
        private static final int TICKS_MOST = 3000;
        private static final int CALLS_MOST = 24;
        private static final int VARIABLES_MOST = 25;
        private static final int TASKS_MOST = 100000000;
        private static final int FRAME_AT = 0;
        private static final int FRAME_FUNCTION = 1;
        private static final int FRAME_TASKS = 2;
        private static final int FRAME_VALUES = 3;
        private static final int FRAME_SIZE = 4;
        final byte[] memory = new byte[MEMORY_SIZE];
        final int[] outs = new int[OUT_KEPT];
        int outCount;
        int outSum;
        int state = NONE;
        long result;
        int ticks;
        int most;
        int top;
        private final int[] tasks = new int[8000];
        private int taskCount;
        private final long[] values = new long[8000];
        private int valueCount;
        private final long[] locals = new long[VARIABLES_MOST * CALLS_MOST];
        private final int[] frames = new int[FRAME_SIZE * CALLS_MOST];
        private int depth;
        private Program program;
        private int[] input;
        private int inputCount;
        private int inputAt;

        /** Sets all up for a working out; give() and work() follow. */
        void ready(Program p, int[] numbers, int many) {
            program = p;
            input = numbers;
            inputCount = many;
            inputAt = 0;
            outCount = 0;
            outSum = 17;
            result = 0;
            ticks = 0;
            most = 0;
            top = MEMORY_SIZE;
            taskCount = 0;
            valueCount = 0;
            depth = 0;
            state = WORKING;
            for (int k = 0; k < memory.length; k++) {
                memory[k] = (byte) p.firstMemory(k);
            }
        }

        void give(long number, int type) {
            push(Program.converted(number, type));
        }

        int work(int function) {
            enter(function);
            for (int k = 0; k < TASKS_MOST && taskCount > 0 && state == WORKING; k++) {
                taskCount--;
                one(tasks[taskCount] >> 3, tasks[taskCount] & 7);
            }
            if (state == WORKING) {
                state = taskCount == 0 ? ENDED : BY_BOUND;
            }
            result = state == ENDED && valueCount > 0 ? pop() : 0;
            return state;
        }

        int memorySum() {
            int sum = 17;
            for (int k = 0; k < memory.length; k++) {
                sum = sum * 31 + (memory[k] & 255);
            }
            return sum;
        }

        private void later(int n, int mode) {
            if (taskCount < tasks.length) {
                tasks[taskCount] = n << 3 | mode;
                taskCount++;
            } else {
                state = BY_BOUND;
            }
        }

        private void push(long value) {
            if (valueCount < values.length) {
                values[valueCount] = value;
                valueCount++;
            } else {
                state = BY_BOUND;
            }
        }

        private long pop() {
            if (valueCount <= 0) {
                return 0;
            }
            valueCount--;
            return values[valueCount];
        }

        private int frame(int field) {
            return depth > 0 && depth <= CALLS_MOST ? frames[(depth - 1) * FRAME_SIZE + field] : 0;
        }

        private int local(int variable) {
            int at = (depth - 1) * VARIABLES_MOST + variable - program.function(frame(FRAME_FUNCTION), F_VARIABLES);
            return at >= 0 && at < locals.length ? at : 0;
        }

        /** One time more; what goes beyond the bound ends all. */
        private boolean tick() {
            if (ticks >= TICKS_MOST) {
                state = BY_BOUND;
                return false;
            }
            ticks++;
            return true;
        }

        private void one(int n, int mode) {
            switch (mode) {
                case DO:
                    if (program.kind(n) < E_LAST) {
                        exp(n);
                    } else {
                        statement(n);
                    }
                    break;
                case PLACE:
                    place(n);
                    break;
                case SECOND:
                    second(n);
                    break;
                case FINISH:
                    if (program.kind(n) < E_LAST) {
                        finishExp(n);
                    } else {
                        finishStatement(n);
                    }
                    break;
                case AGAIN:
                    again(n);
                    break;
                case FORGET:
                    pop();
                    break;
                default:
                    long index = pop();
                    int step = Program.stepOf(program.node(program.node(n, A), TYPE));
                    push((int) (pop() + index * step));
                    break;
            }
        }

        private void exp(int n) {
            int a = program.node(n, A);
            switch (program.kind(n)) {
                case E_NUMBER:
                case E_CHARACTER:
                case E_SIZEOF:
                    push(program.number(n));
                    break;
                case E_ROW:
                    push(program.row(a, R_PLACE));
                    break;
                case E_NAME:
                    name(n);
                    break;
                case E_STAR:
                case E_INDEX:
                    later(n, FINISH);
                    later(n, PLACE);
                    break;
                case E_ADDRESS:
                    later(n, FINISH);
                    later(a, PLACE);
                    break;
                case E_SIGN:
                case E_CAST:
                    later(n, FINISH);
                    later(a, DO);
                    break;
                case E_AHEAD:
                case E_BEHIND:
                    later(n, FINISH);
                    if (!program.isLoose(a)) {
                        later(a, PLACE);
                    }
                    break;
                case E_TWO:
                    later(n, FINISH);
                    later(program.node(n, B), DO);
                    later(a, DO);
                    break;
                case E_ASSIGN:
                    assign(n, a);
                    break;
                case E_CALL:
                    call(n);
                    break;
                default:
                    later(n, SECOND);
                    later(a, DO);
                    break;
            }
        }

        private void name(int n) {
            int what = program.node(n, A);
            if (program.node(n, B) == FUNCTION) {
                push(what + 1);
            } else if (program.isLoose(n)) {
                push(locals[local(what)]);
            } else if (program.namedCells(n) > 0) {
                push((int) placeOf(n));
            } else {
                push(fetch(placeOf(n), program.namedType(n)));
            }
        }

        /** Where a GLOBAL or a PLACED variable lies; that of the latter does not go round. */
        private long placeOf(int n) {
            int what = program.node(n, A);
            return program.node(n, B) == GLOBAL ? program.global(what, G_PLACE)
                : (frame(FRAME_AT) & UNSIGNED) + program.variable(what, V_OFFSET);
        }

        private void place(int n) {
            int a = program.node(n, A);
            if (program.kind(n) == E_NAME) {
                push(placeOf(n));
            } else {
                if (program.kind(n) == E_INDEX) {
                    later(n, INDEXED);
                    later(program.node(n, B), DO);
                }
                later(a, DO);
            }
        }

        private void assign(int n, int a) {
            boolean isPlain = program.node(n, D) == '=';
            later(n, FINISH);
            later(program.node(n, B), DO);
            if (program.isLoose(a)) {
                if (!isPlain) {
                    push(locals[local(program.node(a, A))]);
                }
            } else {
                if (!isPlain) {
                    later(n, SECOND);
                }
                later(a, PLACE);
            }
        }

        /** The exps of a call, so laid that the first one is done first. */
        private void call(int n) {
            later(n, FINISH);
            int from = taskCount;
            for (int part = program.node(n, C), left = TOKENS_MOST; part != NONE && left > 0; part = program.next(part), left--) {
                later(part, DO);
            }
            int last = taskCount - 1;
            for (int k = from; k < last; k++) {
                int task = tasks[k];
                tasks[k] = tasks[last];
                tasks[last] = task;
                last--;
            }
        }

        private long fetch(long told, int type) {
            long place = told < 0 ? told + UNSIGNED + 1 : told;
            int size = Program.sizeOf(type);
            if (place + size > MEMORY_SIZE) {
                state = BY_MEMORY;
                return 0;
            }
            long number = 0;
            for (int k = 0; k < size; k++) {
                number |= (memory[(int) place + k] & 255L) << 8 * k;
            }
            return Program.converted(number, type);
        }

        private void store(long told, int type, long number) {
            long place = told < 0 ? told + UNSIGNED + 1 : told;
            int size = Program.sizeOf(type);
            if (place + size > MEMORY_SIZE) {
                state = BY_MEMORY;
                return;
            }
            for (int k = 0; k < size; k++) {
                memory[(int) place + k] = (byte) (number >> 8 * k);
            }
        }

        private void second(int n) {
            long test = program.kind(n) == E_ASSIGN ? 0 : pop();
            boolean holds = test != 0;
            switch (program.kind(n)) {
                case E_ASSIGN:
                    push(fetch(valueCount > 0 ? values[valueCount - 1] : 0, program.node(program.node(n, A), TYPE)));
                    break;
                case E_BOTH:
                case E_EITHER:
                    if (holds == (program.kind(n) == E_EITHER)) {
                        push(holds ? 1 : 0);
                    } else {
                        later(n, FINISH);
                        later(program.node(n, B), DO);
                    }
                    break;
                case E_CHOICE:
                    later(program.node(n, holds ? B : C), DO);
                    break;
                case S_IF:
                    if (program.node(n, holds ? B : C) != NONE) {
                        later(program.node(n, holds ? B : C), DO);
                    }
                    break;
                case S_SWITCH:
                    enterSwitch(n, test);
                    break;
                case S_DO:
                    if (holds) {
                        later(n, FINISH);
                    }
                    break;
                default:
                    if (holds) {
                        later(n, AGAIN);
                        later(program.node(n, D), DO);
                    }
                    break;
            }
        }

        private void enterSwitch(int n, long number) {
            int found = NONE;
            int otherwise = NONE;
            for (int s = program.node(n, B), left = TOKENS_MOST; s != NONE && left > 0; s = program.next(s), left--) {
                if (program.kind(s) == S_CASE && program.number(s) == number) {
                    found = s;
                }
                if (program.kind(s) == S_DEFAULT) {
                    otherwise = s;
                }
            }
            found = found == NONE ? otherwise : found;
            if (found != NONE) {
                later(n, AGAIN);
                later(found, DO);
            }
        }

        private void finishExp(int n) {
            int a = program.node(n, A);
            int type = program.node(n, TYPE);
            switch (program.kind(n)) {
                case E_STAR:
                case E_INDEX:
                    push(fetch(pop(), type));
                    break;
                case E_ADDRESS:
                    push((int) pop());
                    break;
                case E_SIGN:
                    long value = pop();
                    int sign = program.node(n, D);
                    push(sign == '!' ? (value == 0 ? 1 : 0) : Program.converted(sign == '-' ? -value : ~value, type));
                    break;
                case E_CAST:
                    push(Program.converted(pop(), program.node(n, D)));
                    break;
                case E_AHEAD:
                case E_BEHIND:
                    stepUp(n, a);
                    break;
                case E_TWO:
                    long right = pop();
                    long left = pop();
                    push(two(program.node(n, D), a, program.node(n, B), left, right));
                    break;
                case E_ASSIGN:
                    finishAssign(n, a);
                    break;
                case E_CALL:
                    finishCall(n);
                    break;
                default:
                    push(pop() != 0 ? 1 : 0);
                    break;
            }
        }

        private void stepUp(int n, int a) {
            int type = program.node(a, TYPE);
            long step = Program.isPointer(type) ? Program.stepOf(type) : 1;
            step = program.node(n, D) == PLUS_PLUS ? step : -step;
            boolean isLoose = program.isLoose(a);
            long place = isLoose ? 0 : pop();
            long old = isLoose ? locals[local(program.node(a, A))] : fetch(place, type);
            long now = Program.converted(old + step, type);
            if (state == WORKING) {
                keep(a, place, type, now);
            }
            push(program.kind(n) == E_AHEAD ? now : old);
        }

        private void keep(int a, long place, int type, long now) {
            if (program.isLoose(a)) {
                locals[local(program.node(a, A))] = now;
            } else {
                store(place, type, now);
            }
        }

        private void finishAssign(int n, int a) {
            int type = program.node(a, TYPE);
            int sign = program.node(n, D);
            long now = pop();
            if (sign != '=') {
                long old = pop();
                now = two(sign, a, program.node(n, B), old, now);
            }
            long place = program.isLoose(a) ? 0 : pop();
            now = Program.converted(now, type);
            if (state == WORKING) {
                keep(a, place, type, now);
            }
            push(now);
        }

        private long two(int sign, int a, int b, long left, long right) {
            int one = Program.asRead(program.node(a, TYPE));
            int other = Program.asRead(program.node(b, TYPE));
            if (Program.isPointer(one) || Program.isPointer(other)) {
                return ofPointers(sign, one, other, left, right);
            }
            boolean isShift = sign == SHIFT_LEFT || sign == SHIFT_RIGHT;
            boolean isLong = one == T_LONG || other == T_LONG && !isShift;
            boolean isLeast = left == (isLong ? Long.MIN_VALUE : Integer.MIN_VALUE);
            if ((sign == '/' || sign == '%') && (right == 0 || sign == '/' && right == -1 && isLeast)) {
                state = BY_DIVISION;
                return 0;
            }
            if (isShift) {
                long by = right & (isLong ? 63 : 31);
                long shifted = sign == SHIFT_LEFT ? left << by : left >> by;
                return isLong ? shifted : (int) shifted;
            }
            long number = reckoned(sign, left, right);
            return isLong ? number : (int) number;
        }

        private static long reckoned(int sign, long left, long right) {
            switch (sign) {
                case '+':
                    return left + right;
                case '-':
                    return left - right;
                case '*':
                    return left * right;
                case '/':
                    return right != 0 ? left / right : 0;
                case '%':
                    return right != 0 ? left % right : 0;
                case '&':
                    return left & right;
                case '|':
                    return left | right;
                case '^':
                    return left ^ right;
                default:
                    return compared(sign, left, right) ? 1 : 0;
            }
        }

        private static boolean compared(int sign, long left, long right) {
            switch (sign) {
                case '<':
                    return left < right;
                case '>':
                    return left > right;
                case AT_MOST:
                    return left <= right;
                case AT_LEAST:
                    return left >= right;
                case EQUAL:
                    return left == right;
                default:
                    return left != right;
            }
        }

        private static long ofPointers(int sign, int one, int other, long left, long right) {
            int step = Program.stepOf(Program.isPointer(one) ? one : other);
            if (sign == '+') {
                return (int) (Program.isPointer(one) ? left + right * step : right + left * step);
            }
            if (sign == '-') {
                return Program.isPointer(other) ? (int) (left - right) / step : (int) (left - right * step);
            }
            return compared(sign, left & UNSIGNED, right & UNSIGNED) ? 1 : 0;
        }

        private void finishCall(int n) {
            int binding = program.node(n, B);
            int what = program.node(n, A);
            int many = program.node(n, D);
            boolean isOwn = binding != GET && binding != PUT;
            int sign = program.namedType(n);
            for (int k = 0; k < many; k++) {
                int at = valueCount - many + k;
                if (at >= 0 && at < values.length) {
                    values[at] = Program.converted(values[at], isOwn ? program.parameterOf(sign, k) : T_INT);
                }
            }
            if (binding == FUNCTION) {
                enter(what);
            } else if (isOwn) {
                long number = binding == GLOBAL ? fetch(placeOf(n), sign) : locals[local(what)];
                int f = number >= 1 && number <= program.functionCount ? (int) number - 1 : NONE;
                if (state == WORKING && (f == NONE || !hasSorts(program.function(f, F_SIGN), sign))) {
                    state = BY_TABLE;
                }
                if (state == WORKING) {
                    enter(f);
                }
            } else if (tick()) {
                if (binding == GET) {
                    push(inputAt < inputCount && inputAt < input.length ? input[inputAt] : -1);
                    inputAt++;
                } else {
                    putOut((int) pop());
                    push(0);
                }
            }
        }

        private void putOut(int number) {
            if (outCount < OUT_KEPT) {
                outs[outCount] = number;
            }
            outCount++;
            outSum = outSum * 31 + number;
        }

        /** Whether two FUNCTION POINTERS are of like SORTS. */
        private boolean hasSorts(int one, int other) {
            int many = program.parametersOf(one);
            boolean are = many == program.parametersOf(other)
                && sortOf(program.resultOf(one)) == sortOf(program.resultOf(other));
            for (int k = 0; k < many && are; k++) {
                are = sortOf(program.parameterOf(one, k)) == sortOf(program.parameterOf(other, k));
            }
            return are;
        }

        private static int sortOf(int type) {
            return type == T_VOID ? NO_SORT : type == T_LONG ? I64 : I32;
        }

        private void enter(int f) {
            if (!tick()) {
                return;
            }
            if (depth >= CALLS_MOST) {
                state = BY_BOUND;
                return;
            }
            int many = program.function(f, F_PARAMETERS);
            int from = Math.max(0, valueCount - many);
            int to = depth * VARIABLES_MOST;
            Arrays.fill(locals, to, to + VARIABLES_MOST, 0L);
            System.arraycopy(values, from, locals, to, Math.min(VARIABLES_MOST, valueCount - from));
            valueCount = from;
            top -= program.function(f, F_FRAME);
            int frame = depth * FRAME_SIZE;
            frames[frame + FRAME_AT] = top;
            frames[frame + FRAME_FUNCTION] = f;
            frames[frame + FRAME_TASKS] = taskCount;
            frames[frame + FRAME_VALUES] = valueCount;
            depth++;
            most = Math.max(most, depth);
            for (int k = 0; k < many && state == WORKING; k++) {
                int v = program.function(f, F_VARIABLES) + k;
                int offset = program.variable(v, V_OFFSET);
                if (offset != NONE) {
                    store((top & UNSIGNED) + offset, program.variable(v, V_TYPE), locals[local(v)]);
                }
            }
            later(program.function(f, F_BODY), FINISH);
            later(program.function(f, F_BODY), DO);
        }

        private void leave(long value) {
            taskCount = frame(FRAME_TASKS);
            valueCount = frame(FRAME_VALUES);
            top += program.function(frame(FRAME_FUNCTION), F_FRAME);
            depth--;
            push(value);
        }

        private void statement(int n) {
            if (program.node(n, NEXT) != NONE) {
                later(program.node(n, NEXT), DO);
            }
            int a = program.node(n, A);
            switch (program.kind(n)) {
                case S_BLOCK:
                    if (a != NONE) {
                        later(a, DO);
                    }
                    break;
                case S_EXP:
                    later(n, FORGET);
                    later(a, DO);
                    break;
                case S_LOCAL:
                    if (program.node(n, B) != NONE) {
                        later(n, FINISH);
                        later(program.node(n, B), DO);
                    }
                    break;
                case S_IF:
                case S_SWITCH:
                    later(n, SECOND);
                    later(a, DO);
                    break;
                case S_WHILE:
                case S_DO:
                    later(n, FINISH);
                    break;
                case S_FOR:
                    later(n, FINISH);
                    if (a != NONE) {
                        later(n, FORGET);
                        later(a, DO);
                    }
                    break;
                case S_BREAK:
                    leaveLoop(true);
                    break;
                case S_CONTINUE:
                    leaveLoop(false);
                    break;
                case S_RETURN:
                    if (a != NONE) {
                        later(n, FINISH);
                        later(a, DO);
                    } else {
                        leave(0);
                    }
                    break;
                default:
                    break;
            }
        }

        /** FINISH of a loop stands ahead of its test, or of the statement of do. */
        private void finishStatement(int n) {
            int kind = program.kind(n);
            if (kind == S_BLOCK) {
                leave(0);
            } else if (kind == S_RETURN) {
                int sign = program.function(frame(FRAME_FUNCTION), F_SIGN);
                leave(Program.converted(pop(), program.resultOf(sign)));
            } else if (kind == S_LOCAL) {
                int v = program.node(n, A);
                long now = Program.converted(pop(), program.variable(v, V_TYPE));
                int offset = program.variable(v, V_OFFSET);
                if (offset == NONE) {
                    locals[local(v)] = now;
                } else {
                    store((frame(FRAME_AT) & UNSIGNED) + offset, program.variable(v, V_TYPE), now);
                }
            } else if (tick()) {
                int test = kind == S_FOR ? program.node(n, B) : kind == S_WHILE ? program.node(n, A) : NONE;
                if (test != NONE) {
                    later(n, SECOND);
                    later(test, DO);
                } else {
                    later(n, AGAIN);
                    later(program.node(n, D), DO);
                }
            }
        }

        /** AGAIN lies under the statement of a loop and under the items of a switch. */
        private void again(int n) {
            int kind = program.kind(n);
            if (kind == S_WHILE) {
                later(n, FINISH);
            } else if (kind == S_DO) {
                later(n, SECOND);
                later(program.node(n, A), DO);
            } else if (kind == S_FOR) {
                later(n, FINISH);
                if (program.node(n, C) != NONE) {
                    later(n, FORGET);
                    later(program.node(n, C), DO);
                }
            }
        }

        private void leaveLoop(boolean isBreak) {
            int floor = frame(FRAME_TASKS);
            boolean found = false;
            for (int k = 0; k < tasks.length && !found && taskCount > floor && taskCount > 0; k++) {
                int task = tasks[taskCount - 1];
                boolean isMark = (task & 7) == AGAIN;
                found = isMark && (isBreak || program.kind(task >> 3) != S_SWITCH);
                if (!found || isBreak) {
                    taskCount--;
                }
            }
        }
    }

    /** An own function of a module: its type, the SORTS of its locals, its instructions. */
    private static final class Body {
        int signature;
        int[] sorts = new int[8];
        int sortCount;
        int count;
        private int[] ops = new int[16];
        private long[] with = new long[16];
        /** For each br_table how many places it has, these, and the last one. */
        private int[] rows = new int[4];
        private int rowsEnd;
        /** Of a block, loop, if its else or end, of an else its end; then what it stands in; its height. */
        private int[] mates = new int[0];
        private int[] outers = new int[0];
        private int[] heights = new int[0];

        void clear() {
            signature = 0;
            sortCount = 0;
            count = 0;
            rowsEnd = 0;
        }

        /** Each br_table has a row of its own, if rows are to be changed; else those that are alike are one. */
        void copy(Body from, boolean hasOwnRows) {
            signature = from.signature;
            count = from.count;
            sortCount = from.sortCount;
            rowsEnd = 0;
            if (ops.length < count) {
                ops = new int[count + count / 4];
                with = new long[count + count / 4];
            }
            if (sorts.length < sortCount) {
                sorts = new int[sortCount * 2];
            }
            System.arraycopy(from.ops, 0, ops, 0, count);
            System.arraycopy(from.with, 0, with, 0, count);
            System.arraycopy(from.sorts, 0, sorts, 0, sortCount);
            for (int i = 0; i < count; i++) {
                if (ops[i] == BR_TABLE) {
                    with[i] = takeRow(from, with[i], hasOwnRows);
                }
            }
        }

        void add(int op, long what) {
            if (count >= ops.length) {
                ops = Arrays.copyOf(ops, count * 2 + 16);
                with = Arrays.copyOf(with, count * 2 + 16);
            }
            ops[count] = op;
            with[count] = what;
            count++;
        }

        void addSort(int sort) {
            if (sortCount >= sorts.length) {
                sorts = Arrays.copyOf(sorts, sortCount * 2 + 8);
            }
            sorts[sortCount] = sort;
            sortCount++;
        }

        int sort(int k) {
            return k >= 0 && k < sortCount ? sorts[k] : NO_SORT;
        }

        void moveSort(int from, int to) {
            if (from >= 0 && from < sortCount && to >= 0 && to < sortCount) {
                sorts[to] = sorts[from];
            }
        }

        /** Begins the row of a br_table; as many and one more places are added behind that. */
        int newRow(int many) {
            int row = rowsEnd;
            if (rowsEnd + many + 2 > rows.length) {
                rows = Arrays.copyOf(rows, rowsEnd * 2 + many + 2);
            }
            rows[row] = many;
            rowsEnd++;
            return row;
        }

        void addToRow(int what) {
            if (rowsEnd >= rows.length) {
                rows = Arrays.copyOf(rows, rowsEnd * 2 + 8);
            }
            rows[rowsEnd] = what;
            rowsEnd++;
        }

        /** A row like one of another body. */
        int takeRow(Body from, long told, boolean isOwn) {
            int many = from.rowSize(told);
            int row = newRow(many);
            for (int k = 0; k <= many; k++) {
                addToRow(from.rowPlace(told, k));
            }
            for (int other = 0; other < row && !isOwn; other += 2 + rowSize(other)) {
                if (areLikeRows(other, row, many)) {
                    rowsEnd = row;
                    return other;
                }
            }
            return row;
        }

        /** Whether a row is like the newest one. */
        private boolean areLikeRows(int one, int newest, int many) {
            boolean are = one >= 0 && one <= newest && newest + many + 1 < rowsEnd && rowsEnd <= rows.length;
            for (int k = 0; k <= many + 1 && are; k++) {
                are = rows[one + k] == rows[newest + k];
            }
            return are;
        }

        /** How many places the br_table has, the last one not counted. */
        int rowSize(long row) {
            return row >= 0 && row < rowsEnd ? rows[(int) row] : 0;
        }

        int rowPlace(long row, int k) {
            long at = row + 1 + k;
            return row >= 0 && k >= 0 && at < rowsEnd ? rows[(int) at] : 0;
        }

        void setRowPlace(long row, int k, int place) {
            long at = row + 1 + k;
            if (row >= 0 && k >= 0 && at < rowsEnd) {
                rows[(int) at] = place;
            }
        }

        int op(int i) {
            return i >= 0 && i < count ? ops[i] : NONE;
        }

        long with(int i) {
            return i >= 0 && i < count ? with[i] : NONE;
        }

        void set(int i, int op, long what) {
            if (i >= 0 && i < count) {
                ops[i] = op;
                with[i] = what;
            }
        }

        /** Instructions go; those behind them move up. */
        void cut(int from, int many) {
            if (from >= 0 && many > 0 && from + many <= count) {
                System.arraycopy(ops, from + many, ops, from, count - from - many);
                System.arraycopy(with, from + many, with, from, count - from - many);
                count -= many;
            }
        }

        /** Makes room behind an instruction; what stands there is to be set. */
        void spread(int from, int many) {
            if (from < 0 || from > count || many <= 0) {
                return;
            }
            if (count + many > ops.length) {
                ops = Arrays.copyOf(ops, count * 2 + many);
                with = Arrays.copyOf(with, count * 2 + many);
            }
            System.arraycopy(ops, from, ops, from + many, count - from);
            System.arraycopy(with, from, with, from + many, count - from);
            count += many;
        }

        static boolean opens(int op) {
            return op == BLOCK || op == LOOP || op == IF;
        }

        /** The else, if there is one and it is wanted, or end of what opens at an instruction. */
        int closing(int from, boolean orElse) {
            int deep = 0;
            for (int i = from + 1; i < count; i++) {
                if (deep == 0 && (ops[i] == CLOSE || ops[i] == ELSE && orElse)) {
                    return i;
                }
                deep = opens(ops[i]) ? deep + 1 : ops[i] == CLOSE ? deep - 1 : deep;
            }
            return count - 1;
        }

        /** Links what opens with what closes it. */
        void link() {
            if (mates.length < count) {
                mates = new int[count + count / 4];
                outers = new int[count + count / 4];
                heights = new int[count + count / 4];
            }
            int inside = NONE;
            for (int i = 0; i < count; i++) {
                outers[i] = inside;
                mates[i] = NONE;
                if (opens(ops[i])) {
                    inside = i;
                } else if (ops[i] == ELSE && inside != NONE) {
                    mates[inside] = i;
                } else if (ops[i] == CLOSE && inside != NONE) {
                    mates[mates[inside] == NONE ? inside : mates[inside]] = i;
                    inside = outers[inside];
                }
            }
        }

        int mate(int i) {
            return i >= 0 && i < count && i < mates.length ? mates[i] : NONE;
        }

        int endOf(int i) {
            int mate = i >= 0 && i < count && i < mates.length ? mates[i] : NONE;
            return mate >= 0 && mate < count && ops[mate] == ELSE ? mates[mate] : mate;
        }

        /** What a place goes to from an instruction: where it opens; NONE for the function. */
        int target(int i, long out) {
            int at = i >= 0 && i < count && i < outers.length ? outers[i] : NONE;
            for (long k = 0; k < out && at >= 0 && at < outers.length; k++) {
                at = outers[at];
            }
            return at;
        }

        int heightAt(int i) {
            return i >= 0 && i < heights.length ? heights[i] : 0;
        }

        void setHeight(int i, int height) {
            if (i >= 0 && i < heights.length) {
                heights[i] = height;
            }
        }

        boolean isLike(Body other) {
            boolean is = signature == other.signature && count == other.count && sortCount == other.sortCount;
            for (int k = 0; k < sortCount && is; k++) {
                is = sort(k) == other.sort(k);
            }
            for (int i = 0; i < count && is; i++) {
                is = op(i) == other.op(i) && (op(i) == BR_TABLE ? isLikeRow(i, other) : with(i) == other.with(i));
            }
            return is;
        }

        private boolean isLikeRow(int i, Body other) {
            int many = rowSize(with(i));
            boolean is = many == other.rowSize(other.with(i));
            for (int k = 0; k <= many && is; k++) {
                is = rowPlace(with(i), k) == other.rowPlace(other.with(i), k);
            }
            return is;
        }

        /** What stands with an instruction; NONE of a byte that is none. */
        static int shape(int op) {
            switch (op) {
                case BLOCK:
                case LOOP:
                case IF:
                    return WITH_SORT;
                case BR:
                case BR_IF:
                case CALL:
                case LOCAL_GET:
                case LOCAL_SET:
                case LOCAL_TEE:
                case GLOBAL_GET:
                case GLOBAL_SET:
                    return WITH_INDEX;
                case BR_TABLE:
                    return WITH_ROW;
                case INDIRECT:
                    return WITH_TYPE;
                case LOAD:
                case LOAD_LONG:
                case LOAD_BYTE:
                case STORE:
                case STORE_LONG:
                case STORE_BYTE:
                    return WITH_OFFSET;
                case SIZE:
                case GROW:
                    return WITH_ZERO;
                case CONST:
                    return WITH_WORD;
                case CONST_LONG:
                    return WITH_LONG;
                case UNREACHABLE:
                case NOP:
                case ELSE:
                case CLOSE:
                case RETURN:
                case DROP:
                case SELECT:
                case EQZ:
                case EQZ_LONG:
                case WRAP:
                case EXTEND:
                    return WITH_NOTHING;
                default:
                    return isOfTwo(op) ? WITH_NOTHING : NONE;
            }
        }

        /** Whether an instruction takes two of a SORT and gives one; some without a sign are not known. */
        static boolean isOfTwo(int op) {
            return op >= EQ && op <= GE_U || op >= EQ_LONG && op <= GE_U_LONG
                || op >= ADD && op <= SHR_U && op != 110 && op != 112
                || op >= ADD_LONG && op <= SHR_U_LONG && op != 128 && op != 130;
        }

        static boolean isComparison(int op) {
            return op >= EQ && op <= GE_U || op >= EQ_LONG && op <= GE_U_LONG;
        }

        /** The SORT of what an instruction of one or two of a SORT takes. */
        static int taken(int op) {
            boolean isLong = op >= EQZ_LONG && op <= GE_U_LONG || op >= ADD_LONG && op <= SHR_U_LONG || op == WRAP;
            return isLong ? I64 : I32;
        }

        static int given(int op) {
            return op >= ADD_LONG && op <= SHR_U_LONG || op == EXTEND ? I64 : I32;
        }

        /** The byte that stands beside the offset of load and store. */
        static int alignment(int op) {
            return op == LOAD_BYTE || op == STORE_BYTE ? 0 : op == LOAD_LONG || op == STORE_LONG ? 3 : 2;
        }
    }

    private static final class Module {
        static final int TYPES_MOST = 60;
        static final int FUNCTIONS_MOST = 60;
        static final int EXPORTS_MOST = 20;
        static final int GLOBALS_MOST = 6;
        static final int PARAMETERS_MOST = 20;
        static final int ENTRIES_MOST = 40;
        static final int NAME_MOST = 10;
        static final int DATA_MOST = 4000;
        private static final int TYPE_SIZE = PARAMETERS_MOST + 2;
        private static final int EXPORT_SIZE = NAME_MOST + 2;
        private final int[] types = new int[TYPES_MOST * TYPE_SIZE];
        int typeCount;
        /** Of each import 0 for get or 1 for put, and its type. */
        private final int[] imports = new int[8];
        int importCount;
        private final Body[] bodies = new Body[FUNCTIONS_MOST];
        int own;
        /** NONE without a table, without a memory. */
        int entries = NONE;
        int least = NONE;
        int most = NONE;
        /** Of each global its SORT, and 1 if it changes. */
        private final int[] globals = new int[GLOBALS_MOST * 2];
        final long[] globalFirsts = new long[GLOBALS_MOST];
        int globalCount;
        private final int[] exports = new int[EXPORTS_MOST * EXPORT_SIZE];
        int exportCount;
        /** Of each element its place, and where its functions end among all. */
        final int[] elements = new int[12];
        final int[] listed = new int[FUNCTIONS_MOST];
        int elementCount;
        /** Of each data its place, and where its bytes end among all. */
        final int[] datas = new int[12];
        final byte[] laid = new byte[DATA_MOST];
        int dataCount;
        Program program;
        boolean isLinked;

        void clear() {
            typeCount = 0;
            importCount = 0;
            own = 0;
            entries = NONE;
            least = NONE;
            most = NONE;
            globalCount = 0;
            exportCount = 0;
            elementCount = 0;
            dataCount = 0;
            program = null;
            isLinked = false;
        }

        void copy(Module from) {
            clear();
            typeCount = from.typeCount;
            importCount = from.importCount;
            entries = from.entries;
            least = from.least;
            most = from.most;
            globalCount = from.globalCount;
            exportCount = from.exportCount;
            elementCount = from.elementCount;
            dataCount = from.dataCount;
            program = from.program;
            System.arraycopy(from.types, 0, types, 0, types.length);
            System.arraycopy(from.imports, 0, imports, 0, imports.length);
            System.arraycopy(from.globals, 0, globals, 0, globals.length);
            System.arraycopy(from.globalFirsts, 0, globalFirsts, 0, globalFirsts.length);
            System.arraycopy(from.exports, 0, exports, 0, exports.length);
            System.arraycopy(from.elements, 0, elements, 0, elements.length);
            System.arraycopy(from.listed, 0, listed, 0, listed.length);
            System.arraycopy(from.datas, 0, datas, 0, datas.length);
            System.arraycopy(from.laid, 0, laid, 0, laid.length);
            for (int k = 0; k < from.own; k++) {
                newBody();
                body(k).copy(from.body(k), false);
            }
        }

        /** Bodies of functions that are gone are used again. */
        Body newBody() {
            int k = Math.min(own, FUNCTIONS_MOST - 1);
            if (bodies[k] == null) {
                bodies[k] = new Body();
            }
            own = k + 1;
            bodies[k].clear();
            return bodies[k];
        }

        /** The body of an own function; the numbers are looked at ahead of this. */
        Body body(int k) {
            return bodies[Math.max(0, Math.min(k, FUNCTIONS_MOST - 1))];
        }

        int functions() {
            return importCount + own;
        }

        int typeOf(int function) {
            return function < importCount ? importType(function) : body(function - importCount).signature;
        }

        /** Begins a type behind those that there are; keepType() counts it. */
        void newType(int parameters, int result) {
            if (typeCount < TYPES_MOST) {
                types[typeCount * TYPE_SIZE] = parameters;
                types[typeCount * TYPE_SIZE + 1] = result;
            }
        }

        void setParameter(int k, int sort) {
            if (typeCount < TYPES_MOST && k >= 0 && k < PARAMETERS_MOST) {
                types[typeCount * TYPE_SIZE + 2 + k] = sort;
            }
        }

        /** Counts the type that was begun, unless it is wanted but once and there already. */
        int keepType(boolean once) {
            for (int k = 0; k < typeCount && once; k++) {
                if (isSameType(k, typeCount)) {
                    return k;
                }
            }
            typeCount = Math.min(typeCount + 1, TYPES_MOST);
            return typeCount - 1;
        }

        boolean isSameType(int one, int other) {
            if (one < 0 || other < 0 || one >= TYPES_MOST || other >= TYPES_MOST) {
                return false;
            }
            int from = one * TYPE_SIZE;
            int to = other * TYPE_SIZE;
            boolean is = types[from] == types[to] && types[from + 1] == types[to + 1];
            for (int k = 0; k < types[from] && k < PARAMETERS_MOST && is; k++) {
                is = types[from + 2 + k] == types[to + 2 + k];
            }
            return is;
        }

        int parameters(int type) {
            return type >= 0 && type < TYPES_MOST ? Math.min(types[type * TYPE_SIZE], PARAMETERS_MOST) : 0;
        }

        int result(int type) {
            return type >= 0 && type < TYPES_MOST ? types[type * TYPE_SIZE + 1] : NO_SORT;
        }

        int parameter(int type, int k) {
            return type >= 0 && type < TYPES_MOST && k >= 0 && k < PARAMETERS_MOST ? types[type * TYPE_SIZE + 2 + k] : I32;
        }

        /** The SORT of a local of an own function, parameters counted. */
        int sortOf(Body body, int local) {
            int many = parameters(body.signature);
            return local < many ? parameter(body.signature, local) : body.sort(local - many);
        }

        int localsOf(Body body) {
            return parameters(body.signature) + body.sortCount;
        }

        void addImport(int name, int type) {
            if (importCount < 4) {
                imports[importCount * 2] = name;
                imports[importCount * 2 + 1] = type;
                importCount++;
            }
        }

        boolean importsGet(int k) {
            return k >= 0 && k < 4 && imports[k * 2] == 0;
        }

        int importType(int k) {
            return k >= 0 && k < 4 ? imports[k * 2 + 1] : 0;
        }

        void addGlobal(int sort, int changing, long first) {
            if (globalCount < GLOBALS_MOST) {
                globals[globalCount * 2] = sort;
                globals[globalCount * 2 + 1] = changing;
                globalFirsts[globalCount] = first;
                globalCount++;
            }
        }

        int globalSort(int k) {
            return k >= 0 && k < globalCount ? globals[k * 2] : NO_SORT;
        }

        boolean isChanging(int k) {
            return k >= 0 && k < globalCount && globals[k * 2 + 1] == 1;
        }

        void addExport(int function) {
            if (exportCount < EXPORTS_MOST) {
                exports[exportCount * EXPORT_SIZE] = function;
                exports[exportCount * EXPORT_SIZE + 1] = 0;
                exportCount++;
            }
        }

        /** Puts a byte behind the name of the newest export. */
        void addToName(int sign) {
            int from = (exportCount - 1) * EXPORT_SIZE;
            if (from >= 0 && exports[from + 1] < NAME_MOST) {
                exports[from + 2 + exports[from + 1]] = sign;
                exports[from + 1]++;
            }
        }

        void setExport(int function) {
            if (exportCount > 0) {
                exports[(exportCount - 1) * EXPORT_SIZE] = function;
            }
        }

        /** Field 0 the function, 1 how long the name is, then its bytes. */
        int exported(int export, int field) {
            return export >= 0 && export < exportCount && field >= 0 && field < EXPORT_SIZE
                ? exports[export * EXPORT_SIZE + field] : NONE;
        }

        boolean isSameName(int one, int other) {
            boolean is = exported(one, 1) == exported(other, 1);
            for (int k = 0; k < exported(one, 1) && is; k++) {
                is = exported(one, 2 + k) == exported(other, 2 + k);
            }
            return is;
        }

        void addElement(int place) {
            if (elementCount < 6) {
                elements[elementCount * 2] = place;
                elements[elementCount * 2 + 1] = listedEnd(elementCount - 1);
                elementCount++;
            }
        }

        /** Where the functions of an element end among all. */
        int listedEnd(int element) {
            return element >= 0 && element < 6 ? elements[element * 2 + 1] : 0;
        }

        void addToElement(int function) {
            int end = listedEnd(elementCount - 1);
            if (elementCount > 0 && end < listed.length) {
                listed[end] = function;
                elements[elementCount * 2 - 1] = end + 1;
            }
        }

        void addData(int place) {
            if (dataCount < 6) {
                datas[dataCount * 2] = place;
                datas[dataCount * 2 + 1] = laidEnd(dataCount - 1);
                dataCount++;
            }
        }

        int elementPlace(int k) {
            return k >= 0 && k < 6 ? elements[k * 2] : 0;
        }

        int dataPlace(int k) {
            return k >= 0 && k < 6 ? datas[k * 2] : 0;
        }

        int laidEnd(int data) {
            return data >= 0 && data < 6 ? datas[data * 2 + 1] : 0;
        }

        void addToData(int what) {
            int end = laidEnd(dataCount - 1);
            if (dataCount > 0 && end < laid.length) {
                laid[end] = (byte) what;
                datas[dataCount * 2 - 1] = end + 1;
            }
        }

        int instructions() {
            int many = 0;
            for (int k = 0; k < own; k++) {
                many += body(k).count;
            }
            return many;
        }

        /** All locals beyond parameters. */
        int allLocals() {
            int many = 0;
            for (int k = 0; k < own; k++) {
                many += body(k).sortCount;
            }
            return many;
        }

        boolean isLike(Module other) {
            boolean is = typeCount == other.typeCount && importCount == other.importCount && own == other.own
                && entries == other.entries && least == other.least && most == other.most
                && globalCount == other.globalCount && exportCount == other.exportCount
                && elementCount == other.elementCount && dataCount == other.dataCount;
            is = is && areLikeTypes(other) && areLikeThings(other);
            for (int k = 0; k < own && is; k++) {
                is = body(k).isLike(other.body(k));
            }
            return is;
        }

        private boolean areLikeTypes(Module other) {
            boolean is = true;
            for (int k = 0; k < typeCount && is; k++) {
                is = parameters(k) == other.parameters(k) && result(k) == other.result(k);
                for (int p = 0; p < parameters(k) && is; p++) {
                    is = parameter(k, p) == other.parameter(k, p);
                }
            }
            return is;
        }

        private boolean areLikeThings(Module other) {
            boolean is = areSame(imports, other.imports, importCount * 2)
                && areSame(globals, other.globals, globalCount * 2)
                && areSame(elements, other.elements, elementCount * 2)
                && areSame(listed, other.listed, listedEnd(elementCount - 1))
                && areSame(datas, other.datas, dataCount * 2);
            for (int k = 0; k < globalCount && is; k++) {
                is = globalFirsts[k] == other.globalFirsts[k];
            }
            for (int k = 0; k < laidEnd(dataCount - 1) && k < laid.length && is; k++) {
                is = laid[k] == other.laid[k];
            }
            for (int k = 0; k < exportCount && is; k++) {
                for (int f = 0; f < 2 + exported(k, 1) && is; f++) {
                    is = exported(k, f) == other.exported(k, f);
                }
            }
            return is;
        }

        private static boolean areSame(int[] one, int[] other, int many) {
            boolean are = true;
            for (int k = 0; k < many && k < one.length && k < other.length && are; k++) {
                are = one[k] == other[k];
            }
            return are;
        }
    }

    /** Makes a module of a program. */
    private static final class Maker {
        /** Locals whose numbers are known only when the code stands: P, A, T, U, then each S. */
        private static final int SYMBOLS = 1000;
        private static final int LOCAL_P = SYMBOLS;
        private static final int LOCAL_A = SYMBOLS + 1;
        private static final int LOCAL_T = SYMBOLS + 2;
        private static final int LOCAL_U = SYMBOLS + 3;
        private static final int LOCAL_S = SYMBOLS + 4;
        private static final int TABLE_REACH = 39;
        private Program program;
        private Module module;
        private Body body;
        private int function;
        private int opened;
        private int switches;
        private final int[] numbered = new int[25];
        private final int[] symbols = new int[400];

        void compile(Program from, Module into) {
            program = from;
            module = into;
            into.clear();
            into.program = from;
            into.newType(0, I32);
            into.addImport(0, into.keepType(true));
            into.newType(1, NO_SORT);
            into.setParameter(0, I32);
            into.addImport(1, into.keepType(true));
            into.addGlobal(I32, 1, MEMORY_SIZE);
            into.entries = from.functionCount + 1;
            into.least = MEMORY_SIZE / PAGE;
            into.most = MEMORY_SIZE / PAGE;
            for (int f = 0; f < from.functionCount; f++) {
                into.newBody().signature = typeFor(from.function(f, F_SIGN));
            }
            for (int n = 0; n < from.nodeCount; n++) {
                int binding = from.node(n, B);
                if (from.kind(n) == E_CALL && (binding == VARIABLE || binding == GLOBAL)) {
                    typeFor(from.namedType(n));
                }
            }
            lists();
            for (int f = 0; f < from.functionCount; f++) {
                function(f);
            }
        }

        private static int sortOf(int type) {
            return type == T_VOID ? NO_SORT : type == T_LONG ? I64 : I32;
        }

        private int typeFor(int sign) {
            module.newType(program.parametersOf(sign), sortOf(program.resultOf(sign)));
            for (int k = 0; k < program.parametersOf(sign); k++) {
                module.setParameter(k, sortOf(program.parameterOf(sign, k)));
            }
            return module.keepType(true);
        }

        /** Exports, the element and the data. */
        private void lists() {
            for (int f = 0; f < program.functionCount; f++) {
                module.addExport(f + 2);
                addName(program.functionName(f));
            }
            if (program.functionCount > 0) {
                module.addElement(1);
            }
            for (int f = 0; f < program.functionCount; f++) {
                module.addToElement(f + 2);
            }
            if (program.end > GLOBALS_FROM) {
                module.addData(GLOBALS_FROM);
            }
            for (int place = GLOBALS_FROM; place < program.end; place++) {
                module.addToData(program.firstMemory(place));
            }
        }

        /** A name is one number of which each letter is a digit: the last one is the lowest. */
        private void addName(long name) {
            long head = 1;
            for (int k = 0; k < 10 && name / head >= 38; k++) {
                head *= 38;
            }
            for (long digit = head; digit > 0; digit /= 38) {
                int letter = (int) (name / digit % 38);
                module.addToName(letter == 27 ? '_' : letter > 27 ? letter - 28 + '0' : letter - 1 + 'a');
            }
        }

        private void function(int f) {
            function = f;
            body = module.body(f);
            opened = 0;
            switches = 0;
            numberVariables();
            int frame = program.function(f, F_FRAME);
            if (frame > 0) {
                body.add(GLOBAL_GET, 0);
                body.add(CONST, frame);
                body.add(SUB, NONE);
                body.add(LOCAL_TEE, LOCAL_P);
                body.add(GLOBAL_SET, 0);
            }
            for (int k = 0; k < program.function(f, F_PARAMETERS); k++) {
                int v = program.function(f, F_VARIABLES) + k;
                if (program.variable(v, V_OFFSET) != NONE) {
                    body.add(LOCAL_GET, LOCAL_P);
                    body.add(LOCAL_GET, k);
                    store(program.variable(v, V_TYPE), program.variable(v, V_OFFSET));
                }
            }
            statement(program.function(f, F_BODY), 0, 0);
            int result = program.resultOf(program.function(f, F_SIGN));
            if (result != T_VOID) {
                constant(result, 0);
            }
            giveFrameBack();
            body.add(CLOSE, NONE);
            numberSymbols();
        }

        private void giveFrameBack() {
            int frame = program.function(function, F_FRAME);
            if (frame > 0) {
                body.add(LOCAL_GET, LOCAL_P);
                body.add(CONST, frame);
                body.add(ADD, NONE);
                body.add(GLOBAL_SET, 0);
            }
        }

        /** Parameters, then LOOSE locals. */
        private void numberVariables() {
            int parameters = program.function(function, F_PARAMETERS);
            int many = parameters + program.function(function, F_LOCALS);
            int next = parameters;
            for (int k = 0; k < many && k < numbered.length; k++) {
                int v = program.function(function, F_VARIABLES) + k;
                numbered[k] = k;
                if (k >= parameters && program.variable(v, V_OFFSET) == NONE) {
                    numbered[k] = next;
                    body.addSort(sortOf(program.variable(v, V_TYPE)));
                    next++;
                }
            }
        }

        /** The other locals come behind, each only if the code has it. */
        private void numberSymbols() {
            Arrays.fill(symbols, NONE);
            for (int i = 0; i < body.count; i++) {
                int k = isOfLocal(body.op(i)) ? (int) body.with(i) - SYMBOLS : NONE;
                if (k >= 0 && k < symbols.length) {
                    symbols[k] = 0;
                }
            }
            for (int k = 0; k < symbols.length; k++) {
                if (symbols[k] == 0) {
                    symbols[k] = module.localsOf(body);
                    body.addSort(k + SYMBOLS == LOCAL_U ? I64 : I32);
                }
            }
            for (int i = 0; i < body.count; i++) {
                int k = isOfLocal(body.op(i)) ? (int) body.with(i) - SYMBOLS : NONE;
                if (k >= 0 && k < symbols.length) {
                    body.set(i, body.op(i), symbols[k]);
                }
            }
        }

        static boolean isOfLocal(int op) {
            return op >= LOCAL_GET && op <= LOCAL_TEE;
        }

        private int localOf(int variable) {
            int k = variable - program.function(function, F_VARIABLES);
            return k >= 0 && k < numbered.length ? numbered[k] : 0;
        }

        private int typeOf(int n) {
            return Program.asRead(program.node(n, TYPE));
        }

        private void constant(int type, long number) {
            body.add(type == T_LONG ? CONST_LONG : CONST, number);
        }

        private void fetch(int type, int offset) {
            body.add(type == T_CHAR ? LOAD_BYTE : type == T_LONG ? LOAD_LONG : LOAD, offset);
        }

        private void store(int type, int offset) {
            body.add(type == T_CHAR ? STORE_BYTE : type == T_LONG ? STORE_LONG : STORE, offset);
        }

        /** tee W, store, get W. */
        private void storeAndKeep(int type, int offset) {
            int keeper = type == T_LONG ? LOCAL_U : LOCAL_T;
            body.add(LOCAL_TEE, keeper);
            store(type, offset);
            body.add(LOCAL_GET, keeper);
        }

        private void convert(int from, int to) {
            if (to == T_LONG && from != T_LONG) {
                body.add(EXTEND, NONE);
            }
            if (to != T_LONG && from == T_LONG) {
                body.add(WRAP, NONE);
            }
            narrow(to);
        }

        private void narrow(int to) {
            if (to == T_CHAR) {
                body.add(CONST, 255);
                body.add(AND, NONE);
            }
        }

        /** Multiplies the int on top, if the SIZE to which a pointer points is not 1. */
        private void scale(int pointer) {
            if (Program.stepOf(pointer) != 1) {
                body.add(CONST, Program.stepOf(pointer));
                body.add(MUL, NONE);
            }
        }

        private void open(int op, int sort) {
            body.add(op, sort);
            opened++;
        }

        private void close() {
            body.add(CLOSE, NONE);
            opened--;
        }

        private void codeAs(int n, int type) {
            code(n);
            convert(typeOf(n), type);
        }

        private void condition(int n) {
            code(n);
            if (typeOf(n) == T_LONG) {
                body.add(CONST_LONG, 0);
                body.add(NE + LONG_COMPARES, NONE);
            }
        }

        private void code(int n) {
            int a = program.node(n, A);
            switch (program.kind(n)) {
                case E_NUMBER:
                case E_CHARACTER:
                case E_SIZEOF:
                    constant(program.node(n, TYPE), program.number(n));
                    break;
                case E_ROW:
                    body.add(CONST, program.row(a, R_PLACE));
                    break;
                case E_NAME:
                    name(n);
                    break;
                case E_STAR:
                case E_INDEX:
                    fetch(program.node(n, TYPE), address(n));
                    break;
                case E_ADDRESS:
                    whereItLies(a);
                    break;
                case E_SIGN:
                    sign(n, a);
                    break;
                case E_CAST:
                    codeAs(a, program.node(n, D));
                    break;
                case E_AHEAD:
                    stepAhead(n, a);
                    break;
                case E_BEHIND:
                    stepBehind(n, a);
                    break;
                case E_TWO:
                    two(n, a, program.node(n, B));
                    break;
                case E_BOTH:
                case E_EITHER:
                    bothOrEither(n, a);
                    break;
                case E_CHOICE:
                    condition(a);
                    open(IF, sortOf(program.node(n, TYPE)));
                    codeAs(program.node(n, B), program.node(n, TYPE));
                    body.add(ELSE, NONE);
                    codeAs(program.node(n, C), program.node(n, TYPE));
                    close();
                    break;
                case E_ASSIGN:
                    assign(n, a);
                    break;
                case E_CALL:
                    call(n);
                    break;
                default:
                    break;
            }
        }

        private void name(int n) {
            int what = program.node(n, A);
            if (program.node(n, B) == FUNCTION) {
                body.add(CONST, what + 1);
            } else if (program.namedCells(n) > 0) {
                whereItLies(n);
            } else if (program.isLoose(n)) {
                body.add(LOCAL_GET, localOf(what));
            } else {
                fetch(program.namedType(n), address(n));
            }
        }

        /** The code of the ADDRESS of what is not LOOSE; the offset that goes with it. */
        private int address(int n) {
            int a = program.node(n, A);
            if (program.kind(n) == E_NAME && program.node(n, B) == GLOBAL) {
                body.add(CONST, program.global(a, G_PLACE));
                return 0;
            }
            if (program.kind(n) == E_NAME) {
                body.add(LOCAL_GET, LOCAL_P);
                return program.variable(a, V_OFFSET);
            }
            code(a);
            if (program.kind(n) == E_INDEX) {
                code(program.node(n, B));
                scale(program.node(a, TYPE));
                body.add(ADD, NONE);
            }
            return 0;
        }

        /** What & gives, or the NAME of an array. */
        private void whereItLies(int n) {
            int offset = address(n);
            if (program.kind(n) == E_NAME && program.node(n, B) == VARIABLE) {
                body.add(CONST, offset);
                body.add(ADD, NONE);
            }
        }

        private void sign(int n, int a) {
            int type = typeOf(a);
            int behind = type == T_LONG ? LONG_RECKONS : 0;
            switch (program.node(n, D)) {
                case '-':
                    constant(type, 0);
                    code(a);
                    body.add(SUB + behind, NONE);
                    break;
                case '~':
                    code(a);
                    constant(type, -1);
                    body.add(opOf('^') + behind, NONE);
                    break;
                default:
                    code(a);
                    body.add(type == T_LONG ? EQZ_LONG : EQZ, NONE);
                    break;
            }
        }

        private static int opOf(int sign) {
            switch (sign) {
                case '+':
                    return ADD;
                case '-':
                    return SUB;
                case '*':
                    return MUL;
                case '/':
                    return DIV;
                case '%':
                    return REM;
                case '&':
                    return AND;
                case '|':
                    return AND + 1;
                case '^':
                    return AND + 2;
                case SHIFT_LEFT:
                    return SHL;
                case SHIFT_RIGHT:
                    return SHL + 1;
                case EQUAL:
                    return EQ;
                case UNEQUAL:
                    return NE;
                case '<':
                    return EQ + 2;
                case '>':
                    return EQ + 4;
                case AT_MOST:
                    return EQ + 6;
                default:
                    return EQ + 8;
            }
        }

        private static boolean isShift(int sign) {
            return sign == SHIFT_LEFT || sign == SHIFT_RIGHT;
        }

        /** The type on which a sign works for two arithmetic ones. */
        private static int workedOn(int sign, int one, int other) {
            return isShift(sign) ? one : Program.both(one, other);
        }

        private void addSign(int sign, int type) {
            int op = opOf(sign);
            int behind = Body.isComparison(op) ? LONG_COMPARES : LONG_RECKONS;
            body.add(type == T_LONG ? op + behind : op, NONE);
        }

        private void two(int n, int a, int b) {
            int sign = program.node(n, D);
            int one = typeOf(a);
            int other = typeOf(b);
            boolean areNumbers = Program.isArithmetic(one) && Program.isArithmetic(other);
            if (areNumbers) {
                int type = workedOn(sign, one, other);
                codeAs(a, type);
                codeAs(b, type);
                addSign(sign, type);
                return;
            }
            boolean isMoved = (sign == '+' || sign == '-') && Program.isArithmetic(other);
            code(a);
            if (sign == '+' && Program.isArithmetic(one)) {
                scale(other);
            }
            code(b);
            if (isMoved) {
                scale(one);
            }
            boolean isOrder = sign == '<' || sign == '>' || sign == AT_MOST || sign == AT_LEAST;
            body.add(isOrder ? opOf(sign) + 1 : opOf(sign), NONE);
            if (sign == '-' && !isMoved && Program.stepOf(one) != 1) {
                body.add(CONST, Program.stepOf(one));
                body.add(DIV, NONE);
            }
        }

        private void bothOrEither(int n, int a) {
            boolean isEither = program.kind(n) == E_EITHER;
            condition(a);
            open(IF, I32);
            if (isEither) {
                body.add(CONST, 1);
                body.add(ELSE, NONE);
            }
            condition(program.node(n, B));
            body.add(CONST, 0);
            body.add(NE, NONE);
            if (!isEither) {
                body.add(ELSE, NONE);
                body.add(CONST, 0);
            }
            close();
        }

        private void assign(int n, int a) {
            int type = program.node(a, TYPE);
            int b = program.node(n, B);
            int sign = program.node(n, D);
            boolean isLoose = program.isLoose(a);
            int local = isLoose ? localOf(program.node(a, A)) : LOCAL_A;
            int offset = isLoose ? 0 : address(a);
            if (sign == '=') {
                codeAs(b, type);
            } else {
                old(isLoose, local, type, offset);
                signed(sign, a, b);
            }
            if (isLoose) {
                body.add(LOCAL_TEE, local);
            } else {
                storeAndKeep(type, offset);
            }
        }

        /** The old value: of a LOOSE one get; otherwise tee A, get A, load. */
        private void old(boolean isLoose, int local, int type, int offset) {
            if (!isLoose) {
                body.add(LOCAL_TEE, LOCAL_A);
            }
            body.add(LOCAL_GET, local);
            if (!isLoose) {
                fetch(type, offset);
            }
        }

        /** What an assign with a sign makes of the old value and its right side. */
        private void signed(int sign, int a, int b) {
            int type = program.node(a, TYPE);
            int one = typeOf(a);
            if (Program.isArithmetic(one)) {
                int worked = workedOn(sign, one, typeOf(b));
                convert(one, worked);
                codeAs(b, worked);
                addSign(sign, worked);
                convert(worked, type);
            } else {
                code(b);
                scale(one);
                body.add(opOf(sign), NONE);
            }
        }

        private void addStep(int n, int type) {
            long step = Program.isPointer(type) ? Program.stepOf(type) : 1;
            constant(type, step);
            addSign(program.node(n, D) == PLUS_PLUS ? '+' : '-', type);
        }

        private void stepAhead(int n, int a) {
            int type = program.node(a, TYPE);
            boolean isLoose = program.isLoose(a);
            int local = isLoose ? localOf(program.node(a, A)) : LOCAL_A;
            int offset = isLoose ? 0 : address(a);
            old(isLoose, local, type, offset);
            addStep(n, type);
            narrow(type);
            if (isLoose) {
                body.add(LOCAL_TEE, local);
            } else {
                storeAndKeep(type, offset);
            }
        }

        private void stepBehind(int n, int a) {
            int type = program.node(a, TYPE);
            int keeper = type == T_LONG ? LOCAL_U : LOCAL_T;
            if (program.isLoose(a)) {
                int local = localOf(program.node(a, A));
                body.add(LOCAL_GET, local);
                body.add(LOCAL_GET, local);
                addStep(n, type);
                narrow(type);
                body.add(LOCAL_SET, local);
                return;
            }
            int offset = address(a);
            old(false, LOCAL_A, type, offset);
            body.add(LOCAL_TEE, keeper);
            addStep(n, type);
            store(type, offset);
            body.add(LOCAL_GET, keeper);
        }

        private void call(int n) {
            int binding = program.node(n, B);
            int what = program.node(n, A);
            boolean isOwn = binding != GET && binding != PUT;
            int sign = program.namedType(n);
            int k = 0;
            for (int part = program.node(n, C), left = TOKENS_MOST; part != NONE && left > 0; part = program.next(part), left--) {
                codeAs(part, isOwn ? program.parameterOf(sign, k) : T_INT);
                k++;
            }
            if (binding == FUNCTION) {
                body.add(CALL, what + 2);
            } else if (!isOwn) {
                body.add(CALL, binding == GET ? 0 : 1);
            } else {
                if (binding == GLOBAL) {
                    body.add(CONST, program.global(what, G_PLACE));
                    fetch(sign, 0);
                } else {
                    body.add(LOCAL_GET, localOf(what));
                }
                body.add(INDIRECT, typeFor(sign));
            }
        }

        /** How many blocks, loops and ifs are open within the one for break, and for continue, comes along. */
        private void statement(int n, int breakAt, int continueAt) {
            int a = program.node(n, A);
            switch (program.kind(n)) {
                case S_BLOCK:
                    for (int s = a, left = TOKENS_MOST; s != NONE && left > 0; s = program.next(s), left--) {
                        statement(s, breakAt, continueAt);
                    }
                    break;
                case S_EXP:
                    code(a);
                    drop(a);
                    break;
                case S_LOCAL:
                    if (program.node(n, B) != NONE) {
                        aheadOfLocal(a);
                        codeAs(program.node(n, B), program.variable(a, V_TYPE));
                        behindLocal(a);
                    }
                    break;
                case S_IF:
                    condition(a);
                    open(IF, NO_SORT);
                    statement(program.node(n, B), breakAt, continueAt);
                    if (program.node(n, C) != NONE) {
                        body.add(ELSE, NONE);
                        statement(program.node(n, C), breakAt, continueAt);
                    }
                    close();
                    break;
                case S_WHILE:
                    loop(n, a, NONE);
                    break;
                case S_FOR:
                    code(a);
                    drop(a);
                    loop(n, program.node(n, B), program.node(n, C));
                    break;
                case S_DO:
                    doLoop(n, a);
                    break;
                case S_SWITCH:
                    switchOf(n, a, continueAt);
                    break;
                case S_BREAK:
                    body.add(BR, opened - breakAt);
                    break;
                case S_CONTINUE:
                    body.add(BR, opened - continueAt);
                    break;
                case S_RETURN:
                    codeAs(a, program.resultOf(program.function(function, F_SIGN)));
                    giveFrameBack();
                    body.add(RETURN, NONE);
                    break;
                default:
                    break;
            }
        }

        private void drop(int n) {
            if (n != NONE && typeOf(n) != T_VOID) {
                body.add(DROP, NONE);
            }
        }

        private void aheadOfLocal(int v) {
            if (program.variable(v, V_OFFSET) != NONE) {
                body.add(LOCAL_GET, LOCAL_P);
            }
        }

        private void behindLocal(int v) {
            int offset = program.variable(v, V_OFFSET);
            if (offset == NONE) {
                body.add(LOCAL_SET, localOf(v));
            } else {
                store(program.variable(v, V_TYPE), offset);
            }
        }

        /** while, and for, which may lack a test and have an exp behind its statement. */
        private void loop(int n, int test, int behind) {
            open(BLOCK, NO_SORT);
            int breakAt = opened;
            open(LOOP, NO_SORT);
            if (test != NONE) {
                condition(test);
                body.add(EQZ, NONE);
                body.add(BR_IF, 1);
            }
            open(BLOCK, NO_SORT);
            statement(program.node(n, D), breakAt, opened);
            close();
            code(behind);
            drop(behind);
            body.add(BR, 0);
            close();
            close();
        }

        private void doLoop(int n, int test) {
            open(BLOCK, NO_SORT);
            int breakAt = opened;
            open(LOOP, NO_SORT);
            open(BLOCK, NO_SORT);
            statement(program.node(n, D), breakAt, opened);
            close();
            condition(test);
            body.add(BR_IF, 0);
            close();
            close();
        }

        private void switchOf(int n, int test, int continueAt) {
            int first = program.node(n, B);
            if (first == NONE) {
                code(test);
                drop(test);
                return;
            }
            int chosen = LOCAL_S + switches;
            switches++;
            code(test);
            body.add(LOCAL_SET, chosen);
            open(BLOCK, NO_SORT);
            int breakAt = opened;
            for (int s = first, left = TOKENS_MOST; s != NONE && left > 0; s = program.next(s), left--) {
                if (isLabel(s)) {
                    open(BLOCK, NO_SORT);
                }
            }
            choose(first, chosen, opened - breakAt);
            for (int s = first, left = TOKENS_MOST; s != NONE && left > 0; s = program.next(s), left--) {
                if (isLabel(s)) {
                    close();
                } else {
                    statement(s, breakAt, continueAt);
                }
            }
            close();
        }

        private boolean isLabel(int n) {
            return program.node(n, KIND) == S_CASE || program.node(n, KIND) == S_DEFAULT;
        }

        /** Goes to the label of the number: by a table if the numbers lie near one another. */
        private void choose(int first, int chosen, int labels) {
            int cases = 0;
            int otherwise = labels;
            int label = 0;
            long least = Long.MAX_VALUE;
            long greatest = Long.MIN_VALUE;
            for (int s = first, left = TOKENS_MOST; s != NONE && left > 0; s = program.next(s), left--) {
                if (program.kind(s) == S_CASE) {
                    cases++;
                    least = Math.min(least, program.number(s));
                    greatest = Math.max(greatest, program.number(s));
                }
                otherwise = program.kind(s) == S_DEFAULT ? label : otherwise;
                label = isLabel(s) ? label + 1 : label;
            }
            if (cases >= 2 && greatest - least <= TABLE_REACH) {
                body.add(LOCAL_GET, chosen);
                body.add(CONST, least);
                body.add(SUB, NONE);
                body.add(BR_TABLE, body.newRow((int) (greatest - least) + 1));
                for (long number = least; number <= greatest; number++) {
                    body.addToRow(labelOf(first, number, otherwise));
                }
                body.addToRow(otherwise);
            } else {
                eachCase(first, chosen);
                body.add(BR, otherwise);
            }
        }

        private int labelOf(int first, long number, int otherwise) {
            int label = 0;
            for (int s = first, left = TOKENS_MOST; s != NONE && left > 0; s = program.next(s), left--) {
                if (program.kind(s) == S_CASE && program.number(s) == number) {
                    return label;
                }
                label = isLabel(s) ? label + 1 : label;
            }
            return otherwise;
        }

        private void eachCase(int first, int chosen) {
            int label = 0;
            for (int s = first, left = TOKENS_MOST; s != NONE && left > 0; s = program.next(s), left--) {
                if (program.kind(s) == S_CASE) {
                    body.add(LOCAL_GET, chosen);
                    body.add(CONST, program.number(s));
                    body.add(EQ, NONE);
                    body.add(BR_IF, label);
                }
                label = isLabel(s) ? label + 1 : label;
            }
        }
    }

    /** The BYTES: writes a module as them, reads them as a module. */
    private static final class Bytes {
        private static final int LAST_SECTION = 11;
        private static final int MUCH = 1 << 30;
        private final byte[] room = new byte[BYTES_MOST];
        int count;
        int faultKind;
        int faultPlace = NONE;
        private int at;
        private boolean isDry;
        private Module module;
        private int section;
        private int refusedAt;
        private int imported;
        private int declared;
        private int coded;
        private boolean hasStrangeImport;
        private final Body aside = new Body();

        int byteOf(int index) {
            return index >= 0 && index < count && index < room.length ? room[index] & 255 : NONE;
        }

        void setByteOf(int index, int what) {
            if (index >= 0 && index < count && index < room.length) {
                room[index] = (byte) what;
            }
        }

        void addByte(int what) {
            if (count < room.length) {
                room[count] = (byte) what;
                count++;
            }
        }

        // ---- Writing: dry, it counts alone.

        int measure(Module m) {
            isDry = true;
            at = 0;
            whole(m);
            return at;
        }

        /** The module is known to fit. */
        void fill(Module m) {
            isDry = false;
            at = 0;
            whole(m);
            count = Math.min(at, BYTES_MOST);
        }

        private void whole(Module m) {
            module = m;
            put(0);
            put(97);
            put(115);
            put(109);
            put(1);
            put(0);
            put(0);
            put(0);
            for (int s = 1; s <= LAST_SECTION; s++) {
                boolean stands = s != 8 && (s != 4 || m.entries != NONE) && (s != 5 || m.least != NONE);
                if (stands) {
                    put(s);
                    int from = at;
                    content(s);
                    sizeAhead(from);
                }
            }
        }

        /** Puts how many bytes were put from a place on ahead of them. */
        private void sizeAhead(int from) {
            int size = at - from;
            int groups = 1;
            for (int rest = size >>> 7; rest > 0; rest = rest >>> 7) {
                groups++;
            }
            if (!isDry && from >= 0 && size >= 0 && at + groups <= room.length) {
                System.arraycopy(room, from, room, from + groups, size);
                for (int k = 0; k < groups; k++) {
                    room[from + k] = (byte) (size >>> 7 * k & 127 | (k + 1 < groups ? 128 : 0));
                }
            }
            at += groups;
        }

        private void put(int what) {
            if (!isDry && at < room.length) {
                room[at] = (byte) what;
            }
            at++;
        }

        private void unsigned(long number) {
            long rest = number;
            for (int k = 0; k < 10; k++) {
                boolean isLast = rest >>> 7 == 0;
                put((int) (rest & 127) + (isLast ? 0 : 128));
                if (isLast) {
                    return;
                }
                rest = rest >>> 7;
            }
        }

        private void signed(long number) {
            long rest = number;
            for (int k = 0; k < 10; k++) {
                int group = (int) (rest & 127);
                rest = rest >> 7;
                boolean isLast = rest == 0 && group < 64 || rest == -1 && group >= 64;
                put(group + (isLast ? 0 : 128));
                if (isLast) {
                    return;
                }
            }
        }

        private void content(int s) {
            switch (s) {
                case 1:
                    typesOut();
                    break;
                case 2:
                    importsOut();
                    break;
                case 3:
                    unsigned(module.own);
                    for (int k = 0; k < module.own; k++) {
                        unsigned(module.body(k).signature);
                    }
                    break;
                case 4:
                    put(1);
                    put(112);
                    put(0);
                    unsigned(module.entries);
                    break;
                case 5:
                    put(1);
                    put(1);
                    unsigned(module.least);
                    unsigned(module.most);
                    break;
                case 6:
                    globalsOut();
                    break;
                case 7:
                    exportsOut();
                    break;
                case 9:
                    elementsOut();
                    break;
                case 10:
                    unsigned(module.own);
                    for (int k = 0; k < module.own; k++) {
                        int from = at;
                        codeOut(module.body(k));
                        sizeAhead(from);
                    }
                    break;
                default:
                    datasOut();
                    break;
            }
        }

        private void typesOut() {
            unsigned(module.typeCount);
            for (int k = 0; k < module.typeCount; k++) {
                put(96);
                unsigned(module.parameters(k));
                for (int p = 0; p < module.parameters(k); p++) {
                    put(module.parameter(k, p));
                }
                boolean hasResult = module.result(k) != NO_SORT;
                put(hasResult ? 1 : 0);
                if (hasResult) {
                    put(module.result(k));
                }
            }
        }

        private void importsOut() {
            unsigned(module.importCount);
            for (int k = 0; k < module.importCount; k++) {
                boolean isGet = module.importsGet(k);
                put(1);
                put('h');
                put(3);
                put(isGet ? 'g' : 'p');
                put(isGet ? 'e' : 'u');
                put('t');
                put(0);
                unsigned(module.importType(k));
            }
        }

        private void globalsOut() {
            unsigned(module.globalCount);
            for (int k = 0; k < module.globalCount && k < Module.GLOBALS_MOST; k++) {
                put(module.globalSort(k));
                put(module.isChanging(k) ? 1 : 0);
                put(module.globalSort(k) == I64 ? CONST_LONG : CONST);
                signed(module.globalFirsts[k]);
                put(CLOSE);
            }
        }

        private void exportsOut() {
            unsigned(module.exportCount);
            for (int k = 0; k < module.exportCount; k++) {
                unsigned(module.exported(k, 1));
                for (int s = 0; s < module.exported(k, 1); s++) {
                    put(module.exported(k, 2 + s));
                }
                put(0);
                unsigned(module.exported(k, 0));
            }
        }

        private void elementsOut() {
            unsigned(module.elementCount);
            for (int k = 0; k < module.elementCount; k++) {
                int from = module.listedEnd(k - 1);
                int end = module.listedEnd(k);
                placeOut(module.elementPlace(k));
                unsigned(end - from);
                for (int f = from; f < end && f < module.listed.length; f++) {
                    unsigned(module.listed[f]);
                }
            }
        }

        private void datasOut() {
            unsigned(module.dataCount);
            for (int k = 0; k < module.dataCount; k++) {
                int from = module.laidEnd(k - 1);
                int end = module.laidEnd(k);
                placeOut(module.dataPlace(k));
                unsigned(end - from);
                for (int b = from; b < end && b < module.laid.length; b++) {
                    put(module.laid[b] & 255);
                }
            }
        }

        private void placeOut(int place) {
            put(0);
            put(CONST);
            signed(place);
            put(CLOSE);
        }

        private void codeOut(Body body) {
            int stretches = 0;
            for (int k = 0; k < body.sortCount; k++) {
                stretches = k == 0 || body.sort(k) != body.sort(k - 1) ? stretches + 1 : stretches;
            }
            unsigned(stretches);
            int from = 0;
            for (int k = 1; k <= body.sortCount; k++) {
                if (k == body.sortCount || body.sort(k) != body.sort(from)) {
                    unsigned(k - from);
                    put(body.sort(from));
                    from = k;
                }
            }
            for (int i = 0; i < body.count; i++) {
                put(body.op(i));
                withOut(body, body.op(i), body.with(i));
            }
        }

        private void withOut(Body body, int op, long with) {
            switch (Body.shape(op)) {
                case WITH_SORT:
                    put((int) with);
                    break;
                case WITH_INDEX:
                    unsigned(with);
                    break;
                case WITH_TYPE:
                    unsigned(with);
                    put(0);
                    break;
                case WITH_OFFSET:
                    put(Body.alignment(op));
                    unsigned(with);
                    break;
                case WITH_ZERO:
                    put(0);
                    break;
                case WITH_WORD:
                case WITH_LONG:
                    signed(with);
                    break;
                case WITH_ROW:
                    unsigned(body.rowSize(with));
                    for (int k = 0; k <= body.rowSize(with); k++) {
                        unsigned(body.rowPlace(with, k));
                    }
                    break;
                default:
                    break;
            }
        }

        // ---- Reading: what cannot stand is told by an exception, its place kept ahead of that.

        /** Whether the BYTES are a module, but for whether its instructions are VALID. */
        boolean take(Module m) {
            module = m;
            m.clear();
            faultKind = 0;
            faultPlace = NONE;
            try {
                sections();
            } catch (IllegalStateException e) {
                faultKind = 1;
                faultPlace = refusedAt;
                return false;
            }
            int wrong = wrongSection();
            if (wrong != NONE) {
                faultKind = 2;
                faultPlace = wrong;
            }
            return wrong == NONE;
        }

        void tellInvalid(int place) {
            faultKind = 3;
            faultPlace = place;
        }

        private void refuse(int place) {
            refusedAt = Math.min(place, count);
            throw new IllegalStateException("a byte that cannot stand there");
        }

        private void header() {
            at = 0;
            imported = 0;
            declared = 0;
            coded = 0;
            hasStrangeImport = false;
            section = 0;
            need(0);
            need(97);
            need(115);
            need(109);
            need(1);
            need(0);
            need(0);
            need(0);
        }

        private void sections() {
            header();
            for (int k = 0; k < BYTES_MOST && at < count; k++) {
                int next = byteOf(at);
                if (next <= section || next > LAST_SECTION || next == 8) {
                    refuse(at);
                }
                section = next;
                at++;
                long size = number();
                int from = at;
                switch (next) {
                    case 1:
                        typesIn();
                        break;
                    case 2:
                        importsIn();
                        break;
                    case 3:
                        functionsIn();
                        break;
                    case 4:
                        tableIn();
                        break;
                    case 5:
                        memoryIn();
                        break;
                    case 6:
                        globalsIn();
                        break;
                    case 7:
                        exportsIn();
                        break;
                    case 9:
                        elementsIn();
                        break;
                    case 10:
                        codesIn();
                        break;
                    default:
                        datasIn();
                        break;
                }
                if (at - from != size) {
                    refuse(at);
                }
            }
        }

        private void need(int what) {
            if (at >= count || byteOf(at) != what) {
                refuse(at);
            }
            at++;
        }

        /** One of two bytes. */
        private int either(int one, int other) {
            int what = byteOf(at);
            if (what != one && what != other) {
                refuse(at);
            }
            at++;
            return what;
        }

        private int any() {
            int what = byteOf(at);
            if (what == NONE) {
                refuse(at);
            }
            at++;
            return what;
        }

        private long number() {
            int from = at;
            long number = 0;
            for (int k = 0; k < 5 && at < count && at < room.length; k++) {
                int group = room[at] & 255;
                at++;
                number |= (group & 127L) << 7 * k;
                if (group < 128 && number <= UNSIGNED) {
                    return number;
                }
                if (group < 128 || k == 4) {
                    refusedAt = from;
                    throw new IllegalStateException("a number that is too great");
                }
            }
            refusedAt = count;
            throw new IllegalStateException("bytes that end too early");
        }

        /** A number that tells how many, of which only so many may be. */
        private int atMost(int most) {
            int from = at;
            long number = number();
            if (number > most) {
                refuse(from);
            }
            return (int) number;
        }

        /** A number that may tell of what there is not: that is another kind of fault. */
        private int index() {
            return (int) Math.min(number(), MUCH);
        }

        private long signedNumber(int groups) {
            int from = at;
            long number = 0;
            for (int k = 0; k < groups && at < count && at < room.length; k++) {
                int group = room[at] & 255;
                at++;
                number |= (group & 127L) << 7 * k;
                int bits = 7 * k + 7;
                boolean isLast = group < 128;
                number = isLast && bits < 64 && (group & 64) != 0 ? number | -1L << bits : number;
                boolean fits = groups == 5 ? number == (int) number : k < 9 || group == 0 || group == 127;
                if (isLast && fits) {
                    return number;
                }
                if (isLast || k == groups - 1) {
                    refusedAt = from;
                    throw new IllegalStateException("a number that is too great");
                }
            }
            refusedAt = count;
            throw new IllegalStateException("bytes that end too early");
        }

        private void functionsIn() {
            declared = atMost(Module.FUNCTIONS_MOST - imported);
            for (int k = 0; k < declared; k++) {
                module.newBody().signature = index();
            }
        }

        /** A row of one. */
        private void one() {
            int from = at;
            if (number() != 1) {
                refuse(from);
            }
        }

        private void tableIn() {
            one();
            need(112);
            need(0);
            module.entries = atMost(Module.ENTRIES_MOST);
        }

        private void memoryIn() {
            one();
            need(1);
            module.least = index();
            module.most = atMost(8);
        }

        private void typesIn() {
            int many = atMost(Module.TYPES_MOST);
            for (int k = 0; k < many; k++) {
                need(96);
                int parameters = atMost(Module.PARAMETERS_MOST);
                module.newType(parameters, NO_SORT);
                for (int p = 0; p < parameters; p++) {
                    module.setParameter(p, either(I32, I64));
                }
                if (atMost(1) == 1) {
                    int result = either(I32, I64);
                    module.newType(parameters, result);
                }
                module.keepType(false);
            }
        }

        private void importsIn() {
            imported = atMost(4);
            for (int k = 0; k < imported; k++) {
                boolean isHost = nameIs("h", atMost(Module.NAME_MOST));
                int length = atMost(Module.NAME_MOST);
                int from = at;
                boolean isGet = nameIs("get", length);
                at = from;
                boolean isPut = nameIs("put", length);
                need(0);
                int type = index();
                module.addImport(isGet ? 0 : 1, type);
                hasStrangeImport = hasStrangeImport || !isHost || !isGet && !isPut || !isImportType(isGet, type);
            }
        }

        /** Goes behind a name. */
        private boolean nameIs(String name, int length) {
            boolean is = name.length() == length;
            for (int k = 0; k < length; k++) {
                int sign = any();
                is = is && sign == name.charAt(k);
            }
            return is;
        }

        private boolean isImportType(boolean isGet, int type) {
            if (type >= module.typeCount) {
                return false;
            }
            return isGet ? module.parameters(type) == 0 && module.result(type) == I32
                : module.parameters(type) == 1 && module.parameter(type, 0) == I32 && module.result(type) == NO_SORT;
        }

        private void globalsIn() {
            int many = atMost(Module.GLOBALS_MOST);
            for (int k = 0; k < many; k++) {
                int sort = either(I32, I64);
                int changing = either(0, 1);
                need(sort == I64 ? CONST_LONG : CONST);
                long first = signedNumber(sort == I64 ? 10 : 5);
                need(CLOSE);
                module.addGlobal(sort, changing, first);
            }
        }

        private void exportsIn() {
            int many = atMost(Module.EXPORTS_MOST);
            for (int k = 0; k < many; k++) {
                int length = atMost(Module.NAME_MOST);
                module.addExport(0);
                for (int s = 0; s < length; s++) {
                    module.addToName(any());
                }
                need(0);
                module.setExport(index());
            }
        }

        private int placeIn() {
            need(0);
            need(CONST);
            int place = (int) signedNumber(5);
            need(CLOSE);
            return place;
        }

        private void elementsIn() {
            int many = atMost(6);
            for (int k = 0; k < many; k++) {
                module.addElement(placeIn());
                int functions = atMost(Module.FUNCTIONS_MOST - module.listedEnd(k - 1));
                for (int f = 0; f < functions; f++) {
                    module.addToElement(index());
                }
            }
        }

        private void datasIn() {
            int many = atMost(6);
            for (int k = 0; k < many; k++) {
                module.addData(placeIn());
                int length = atMost(Module.DATA_MOST - module.laidEnd(k - 1));
                for (int b = 0; b < length; b++) {
                    module.addToData(any());
                }
            }
        }

        /** Codes without a function are read, too, for what cannot stand in them. */
        private void codesIn() {
            long many = number();
            for (long k = 0; k < many; k++) {
                Body body = k < declared ? module.body((int) k) : aside;
                if (k >= declared) {
                    aside.clear();
                }
                long size = number();
                int from = at;
                codeIn(body);
                if (at - from != size) {
                    refuse(at);
                }
                coded++;
            }
        }

        private void codeIn(Body body) {
            long stretches = number();
            for (long k = 0; k < stretches; k++) {
                int many = atMost(250 - body.sortCount);
                int sort = either(I32, I64);
                for (int l = 0; l < many; l++) {
                    body.addSort(sort);
                }
            }
            int deep = 1;
            for (int i = 0; i < BYTES_MOST && deep > 0; i++) {
                int op = byteOf(at);
                deep = Body.opens(op) ? deep + 1 : op == CLOSE ? deep - 1 : deep;
                if (i >= 6000 || deep > 241 || Body.shape(op) == NONE) {
                    refuse(at);
                }
                at++;
                body.add(op, withIn(body, op));
            }
        }

        private long withIn(Body body, int op) {
            long with = NONE;
            switch (Body.shape(op)) {
                case WITH_SORT:
                    with = byteOf(at);
                    if (with != NO_SORT && with != I32 && with != I64) {
                        refuse(at);
                    }
                    at++;
                    break;
                case WITH_INDEX:
                    with = number();
                    break;
                case WITH_TYPE:
                    with = number();
                    need(0);
                    break;
                case WITH_OFFSET:
                    need(Body.alignment(op));
                    with = number();
                    break;
                case WITH_ZERO:
                    need(0);
                    break;
                case WITH_WORD:
                    with = signedNumber(5);
                    break;
                case WITH_LONG:
                    with = signedNumber(10);
                    break;
                case WITH_ROW:
                    int many = atMost(60);
                    with = body.newRow(many);
                    for (int k = 0; k <= many; k++) {
                        body.addToRow(index());
                    }
                    break;
                default:
                    break;
            }
            return with;
        }

        /** The first section with a fault of the second kind. */
        private int wrongSection() {
            if (hasStrangeImport) {
                return 2;
            }
            for (int k = 0; k < module.own; k++) {
                if (module.body(k).signature >= module.typeCount) {
                    return 3;
                }
            }
            if (module.least > module.most) {
                return 5;
            }
            for (int k = 0; k < module.exportCount; k++) {
                boolean isTwice = false;
                for (int other = 0; other < k; other++) {
                    isTwice = isTwice || module.isSameName(other, k);
                }
                if (isTwice || module.exported(k, 0) >= module.functions()) {
                    return 7;
                }
            }
            if (!areGoodElements()) {
                return 9;
            }
            if (coded != declared) {
                return 10;
            }
            return areGoodDatas() ? NONE : LAST_SECTION;
        }

        private boolean areGoodElements() {
            boolean are = true;
            for (int k = 0; k < module.elementCount; k++) {
                int many = module.listedEnd(k) - module.listedEnd(k - 1);
                int place = module.elementPlace(k);
                are = are && place >= 0 && place <= Math.max(0, module.entries) - many;
            }
            for (int f = 0; f < module.listedEnd(module.elementCount - 1) && f < module.listed.length; f++) {
                are = are && module.listed[f] < module.functions();
            }
            return are;
        }

        private boolean areGoodDatas() {
            boolean are = true;
            for (int k = 0; k < module.dataCount; k++) {
                int many = module.laidEnd(k) - module.laidEnd(k - 1);
                int place = module.dataPlace(k);
                are = are && place >= 0 && place <= Math.max(0, module.least) * PAGE - many;
            }
            return are;
        }
    }

    /** Tells whether instructions are VALID, by the SORTS that lie on the stack. */
    private static final class Validator {
        private static final int BLOCKS_MOST = 300;
        /** A SORT of any kind is wanted. */
        private static final int ANY = 1;
        private int[] stack = new int[64];
        private int height;
        /** Of each open block: what opened it, its SORT, its height, 1 if it is DEAD. */
        private final int[] openers = new int[BLOCKS_MOST];
        private final int[] sorts = new int[BLOCKS_MOST];
        private final int[] floors = new int[BLOCKS_MOST];
        private final boolean[] dead = new boolean[BLOCKS_MOST];
        private int blocks;
        private Module module;
        private Body body;
        private boolean isGood;

        /** The first instruction that is not VALID, as its place is told; NONE without one. */
        int firstWrong(Module m) {
            for (int k = 0; k < m.own; k++) {
                int i = wrongIn(m, m.body(k), false);
                if (i != NONE) {
                    return 10000 * (m.importCount + k) + i;
                }
            }
            return NONE;
        }

        /** Links the bodies of a VALID module, and keeps the heights of their blocks. */
        void link(Module m) {
            for (int k = 0; k < m.own && !m.isLinked; k++) {
                m.body(k).link();
                wrongIn(m, m.body(k), true);
            }
            m.isLinked = true;
        }

        private int wrongIn(Module m, Body b, boolean keeps) {
            module = m;
            body = b;
            height = 0;
            blocks = 0;
            isGood = true;
            if (stack.length < b.count + 8) {
                stack = new int[b.count * 2 + 8];
            }
            openBlock(UNREACHABLE, m.result(b.signature));
            for (int i = 0; i < b.count; i++) {
                instruction(b.op(i), b.with(i));
                if (keeps && Body.opens(b.op(i))) {
                    b.setHeight(i, height);
                }
                if (!isGood || blocks == 0) {
                    return isGood && i == b.count - 1 ? NONE : i;
                }
            }
            return Math.max(0, b.count - 1);
        }

        private void openBlock(int op, int sort) {
            if (blocks < BLOCKS_MOST) {
                openers[blocks] = op;
                sorts[blocks] = sort;
                floors[blocks] = height;
                dead[blocks] = false;
                blocks++;
            } else {
                isGood = false;
            }
        }

        private void put(int sort) {
            if (sort != NO_SORT && height < stack.length) {
                stack[height] = sort;
                height++;
            }
        }

        private int take(int wanted) {
            int top = blocks - 1;
            if (wanted == NO_SORT || top < 0) {
                return NO_SORT;
            }
            if (height > floors[top] && height > 0) {
                height--;
                int sort = stack[height];
                isGood = isGood && (sort == wanted || sort == UNKNOWN || wanted == ANY);
                return sort;
            }
            isGood = isGood && dead[top];
            return UNKNOWN;
        }

        private void die() {
            if (blocks > 0) {
                dead[blocks - 1] = true;
                height = floors[blocks - 1];
            }
        }

        private void instruction(int op, long with) {
            switch (Body.shape(op)) {
                case WITH_SORT:
                    if (op == IF) {
                        take(I32);
                    }
                    openBlock(op, (int) with);
                    break;
                case WITH_INDEX:
                    indexed(op, with);
                    break;
                case WITH_TYPE:
                    isGood = isGood && module.entries != NONE && with < module.typeCount;
                    take(I32);
                    called((int) Math.min(with, Module.TYPES_MOST));
                    break;
                case WITH_OFFSET:
                    inMemory(op);
                    break;
                case WITH_ZERO:
                    isGood = isGood && module.least != NONE;
                    if (op == GROW) {
                        take(I32);
                    }
                    put(I32);
                    break;
                case WITH_WORD:
                    put(I32);
                    break;
                case WITH_LONG:
                    put(I64);
                    break;
                case WITH_ROW:
                    table(with);
                    break;
                default:
                    plain(op);
                    break;
            }
        }

        private void indexed(int op, long with) {
            if (op == BR || op == BR_IF) {
                branch(op, with);
            } else if (op == CALL) {
                isGood = isGood && with < module.functions();
                if (isGood) {
                    called(module.typeOf((int) with));
                }
            } else if (Maker.isOfLocal(op)) {
                isGood = isGood && with < module.localsOf(body);
                int sort = isGood ? module.sortOf(body, (int) with) : NO_SORT;
                take(op == LOCAL_GET ? NO_SORT : sort);
                put(op == LOCAL_SET ? NO_SORT : sort);
            } else {
                isGood = isGood && with < module.globalCount;
                int k = isGood ? (int) with : NONE;
                isGood = isGood && (op == GLOBAL_GET || module.isChanging(k));
                take(op == GLOBAL_GET ? NO_SORT : module.globalSort(k));
                put(op == GLOBAL_GET ? module.globalSort(k) : NO_SORT);
            }
        }

        /** The SORT that a place takes; what is not there is a fault. */
        private int takenAt(long out) {
            if (out < 0 || out >= blocks) {
                isGood = false;
                return NO_SORT;
            }
            int k = blocks - 1 - (int) out;
            return openers[k] == LOOP ? NO_SORT : sorts[k];
        }

        private void branch(int op, long out) {
            int sort = takenAt(out);
            if (op == BR_IF) {
                take(I32);
                put(take(sort));
            } else {
                take(sort);
                die();
            }
        }

        private void table(long row) {
            int many = body.rowSize(row);
            int sort = takenAt(body.rowPlace(row, many));
            for (int k = 0; k < many; k++) {
                isGood = takenAt(body.rowPlace(row, k)) == sort && isGood;
            }
            take(I32);
            take(sort);
            die();
        }

        private void called(int type) {
            for (int k = module.parameters(type) - 1; k >= 0; k--) {
                take(module.parameter(type, k));
            }
            put(module.result(type));
        }

        private void inMemory(int op) {
            isGood = isGood && module.least != NONE;
            int sort = op == LOAD_LONG || op == STORE_LONG ? I64 : I32;
            boolean isStore = op == STORE || op == STORE_LONG || op == STORE_BYTE;
            if (isStore) {
                take(sort);
            }
            take(I32);
            put(isStore ? NO_SORT : sort);
        }

        private void plain(int op) {
            switch (op) {
                case NOP:
                    break;
                case UNREACHABLE:
                    die();
                    break;
                case RETURN:
                    take(sorts[0]);
                    die();
                    break;
                case ELSE:
                case CLOSE:
                    close(op);
                    break;
                case DROP:
                    take(ANY);
                    break;
                case SELECT:
                    take(I32);
                    int one = take(ANY);
                    int other = take(ANY);
                    isGood = isGood && (one == other || one == UNKNOWN || other == UNKNOWN);
                    put(one == UNKNOWN ? other : one);
                    break;
                default:
                    int taken = Body.taken(op);
                    take(taken);
                    take(Body.isOfTwo(op) ? taken : NO_SORT);
                    put(Body.given(op));
                    break;
            }
        }

        private void close(int op) {
            int top = blocks - 1;
            if (top < 0) {
                isGood = false;
                return;
            }
            int sort = sorts[top];
            int opener = openers[top];
            take(sort);
            isGood = isGood && height == floors[top];
            height = floors[top];
            if (op == ELSE) {
                isGood = isGood && opener == IF;
                openers[top] = ELSE;
                dead[top] = false;
            } else {
                isGood = isGood && (opener != IF || sort == NO_SORT);
                blocks--;
                put(blocks > 0 ? sort : NO_SORT);
            }
        }
    }

    /** The passes, each over all own functions of a VALID module, in place. */
    private static final class Passer {
        private static final int LEAF_MOST = 30;
        private static final int INLINED_MOST = 1500;
        private static final int LOCALS_MOST = 200;
        private static final int OPENED_MOST = 200;
        /** From here on the passes link what they go over, or change rows. */
        private static final int APART = 3;
        private Module module;
        private Body body;
        /** Those go over this one, so that modules that are not run keep no links, and no rows twice. */
        private final Body work = new Body();
        /** How many longs tell of each local of the body at hand whether it is LIVE. */
        private int width;
        private long[] live = new long[64];
        private long[] behind = new long[8];
        private long[] conflicts = new long[64];
        private int[] standsFor = new int[64];
        private int[] numbers = new int[64];
        /** 1 of a local that some instruction gets, sets or tees. */
        private int[] isUsed = new int[64];

        void doAll(Module m, int bits) {
            for (int k = 0; k < PASSES; k++) {
                if ((bits >> k & 1) == 1) {
                    doOne(m, k);
                }
            }
        }

        void doOne(Module m, int which) {
            module = m;
            m.isLinked = false;
            if (which == 0) {
                inlineAll();
                return;
            }
            for (int k = 0; k < m.own; k++) {
                body = which < APART ? m.body(k) : work;
                if (which >= APART) {
                    work.copy(m.body(k), true);
                }
                switch (which) {
                    case 1:
                        peep();
                        break;
                    case 2:
                        dropDead();
                        break;
                    case 3:
                        dropBlocks();
                        break;
                    case 4:
                        shortenJumps();
                        break;
                    case 5:
                        dropStores();
                        break;
                    default:
                        share();
                        break;
                }
                if (which >= APART) {
                    m.body(k).copy(work, false);
                }
            }
        }

        // ---- INLINE.

        private void inlineAll() {
            boolean isChanged = true;
            for (int round = 0; round < MANY && isChanged; round++) {
                isChanged = false;
                for (int k = 0; k < module.own; k++) {
                    body = module.body(k);
                    isChanged = inlineCalls() || isChanged;
                }
            }
        }

        private boolean inlineCalls() {
            boolean isChanged = false;
            int deep = 0;
            int i = 0;
            for (int k = 0; k < MANY && i < body.count; k++) {
                int op = body.op(i);
                deep = Body.opens(op) ? deep + 1 : op == CLOSE ? deep - 1 : deep;
                int f = op == CALL ? (int) body.with(i) - module.importCount : NONE;
                if (f >= 0 && f < module.own && canInline(module.body(f), deep)) {
                    i = inline(module.body(f), i);
                    isChanged = true;
                } else {
                    i++;
                }
            }
            return isChanged;
        }

        private boolean canInline(Body leaf, int deep) {
            boolean isLeaf = leaf != body && leaf.count <= LEAF_MOST;
            for (int i = 0; i < leaf.count && isLeaf; i++) {
                isLeaf = leaf.op(i) != CALL && leaf.op(i) != INDIRECT;
            }
            int parameters = module.parameters(leaf.signature);
            int locals = parameters + leaf.sortCount;
            return isLeaf && body.count + leaf.count + locals + leaf.sortCount <= INLINED_MOST
                && body.sortCount + locals <= LOCALS_MOST
                && Math.max(deepest(body), deep + 1 + deepest(leaf)) <= OPENED_MOST;
        }

        private static int deepest(Body b) {
            int deep = 0;
            int most = 0;
            for (int i = 0; i < b.count; i++) {
                deep = Body.opens(b.op(i)) ? deep + 1 : b.op(i) == CLOSE ? deep - 1 : deep;
                most = Math.max(most, deep);
            }
            return most;
        }

        /** Puts a leaf in place of the call of it; the instruction behind that. */
        private int inline(Body leaf, int call) {
            int from = module.localsOf(body);
            int parameters = module.parameters(leaf.signature);
            int i = call;
            body.spread(call, leaf.count + parameters + 2 * leaf.sortCount);
            for (int k = parameters - 1; k >= 0; k--) {
                body.set(i, LOCAL_SET, from + k);
                i++;
            }
            for (int k = 0; k < leaf.sortCount; k++) {
                body.set(i, leaf.sort(k) == I64 ? CONST_LONG : CONST, 0);
                body.set(i + 1, LOCAL_SET, from + parameters + k);
                i += 2;
            }
            body.set(i, BLOCK, module.result(leaf.signature));
            i++;
            int deep = 0;
            for (int k = 0; k < leaf.count - 1; k++) {
                int op = leaf.op(k);
                deep = Body.opens(op) ? deep + 1 : op == CLOSE ? deep - 1 : deep;
                body.set(i, op == RETURN ? BR : op, withMoved(leaf, k, from, deep));
                if (op == BR_TABLE) {
                    body.set(i, op, body.takeRow(leaf, leaf.with(k), false));
                }
                i++;
            }
            body.set(i, CLOSE, NONE);
            for (int k = 0; k < parameters + leaf.sortCount; k++) {
                body.addSort(module.sortOf(leaf, k));
            }
            return i + 1;
        }

        /** What stands with an instruction of a leaf (but br_table), when it stands in another body. */
        private static long withMoved(Body leaf, int k, int from, int deep) {
            int op = leaf.op(k);
            return op == RETURN ? deep : Maker.isOfLocal(op) ? leaf.with(k) + from : leaf.with(k);
        }

        // ---- PEEP: no pattern is longer than three, so that a change can let one fit two ahead of it at most.

        private void peep() {
            int i = 0;
            for (int k = 0; k < MANY && i < body.count; k++) {
                i = peepPairs(i) || peepConsts(i) || peepTests(i) ? Math.max(0, i - 2) : i + 1;
            }
        }

        private static boolean isConst(int op) {
            return op == CONST || op == CONST_LONG;
        }

        /** (a) to (f). */
        private boolean peepPairs(int i) {
            int op = body.op(i);
            int next = body.op(i + 1);
            boolean isSame = body.with(i) == body.with(i + 1);
            if (op == NOP) {
                body.cut(i, 1);
            } else if (op == LOCAL_SET && next == LOCAL_GET && isSame) {
                body.set(i, LOCAL_TEE, body.with(i));
                body.cut(i + 1, 1);
            } else if (op == LOCAL_TEE && next == DROP) {
                body.set(i, LOCAL_SET, body.with(i));
                body.cut(i + 1, 1);
            } else if (next == DROP && (op == LOCAL_GET || isConst(op) || op == GLOBAL_GET || op == SIZE)) {
                body.cut(i, 2);
            } else if (op == LOCAL_GET && next == LOCAL_SET && isSame) {
                body.cut(i, 2);
            } else if (op == LOCAL_GET && next == LOCAL_TEE && isSame) {
                body.cut(i + 1, 1);
            } else {
                return false;
            }
            return true;
        }

        /** (g) to (l). */
        private boolean peepConsts(int i) {
            int op = body.op(i);
            int next = body.op(i + 1);
            long number = body.with(i);
            if (op == EXTEND && next == WRAP) {
                body.cut(i, 2);
                return true;
            }
            if (!isConst(op)) {
                return false;
            }
            if (next == op && foldsTwo(i)) {
                return true;
            }
            boolean isOfOne = next == EQZ || next == EQZ_LONG || next == WRAP || next == EXTEND;
            if (isOfOne) {
                body.set(i, next == EXTEND ? CONST_LONG : CONST, Run.ofOne(next, number));
                body.cut(i + 1, 1);
                return true;
            }
            int plain = op == CONST_LONG ? next - LONG_RECKONS : next;
            if (changesNothing(number, plain)) {
                body.cut(i, 2);
                return true;
            }
            if (number == 0 && (next == EQ || next == EQ_LONG)) {
                body.set(i, next - 1, NONE);
                body.cut(i + 1, 1);
                return true;
            }
            if (plain == MUL && number >= 2 && (number & number - 1) == 0) {
                body.set(i, op, bitsOf(number));
                body.set(i + 1, next + SHL - MUL, NONE);
                return true;
            }
            return false;
        }

        private boolean foldsTwo(int i) {
            int op = body.op(i + 2);
            long left = body.with(i);
            long right = body.with(i + 1);
            if (!Body.isOfTwo(op) || Run.traps(op, left, right)) {
                return false;
            }
            body.set(i, Body.given(op) == I64 ? CONST_LONG : CONST, Run.ofTwo(op, left, right));
            body.cut(i + 1, 2);
            return true;
        }

        /** Whether a const and what reckons (told as of i32) leave the other number as it is. */
        private static boolean changesNothing(long number, int op) {
            if (number == 0) {
                return op == ADD || op == SUB || op > AND && op <= SHR_U;
            }
            return number == 1 && (op == MUL || op == DIV) || number == -1 && op == AND;
        }

        private static int bitsOf(long power) {
            int bits = 0;
            for (long rest = power; rest > 1; rest = rest >> 1) {
                bits++;
            }
            return bits;
        }

        /** (m) to (r). */
        private boolean peepTests(int i) {
            int op = body.op(i);
            int next = body.op(i + 1);
            int last = body.op(i + 2);
            long number = body.with(i);
            boolean isTest = Body.isComparison(op) || op == EQZ || op == EQZ_LONG;
            boolean isZero = op == CONST && number == 0;
            if (isTest && next == CONST && body.with(i + 1) == 0 && last == NE) {
                body.cut(i + 1, 2);
            } else if (isZero && next == NE && (last == IF || last == BR_IF || last == EQZ)) {
                body.cut(i, 2);
            } else if (op == EQZ && next == EQZ && (last == IF || last == BR_IF)) {
                body.cut(i, 2);
            } else if (Body.isComparison(op) && next == EQZ) {
                body.set(i, contrary(op), NONE);
                body.cut(i + 1, 1);
            } else if (op == CONST && (number & 255) == 255 && next == AND && last == STORE_BYTE) {
                body.cut(i, 2);
            } else if (op == LOAD_BYTE && next == CONST && (body.with(i + 1) & 255) == 255 && last == AND) {
                body.cut(i + 1, 2);
            } else if (op == CONST && next == BR_IF) {
                body.set(i + 1, BR, body.with(i + 1));
                body.cut(i, number != 0 ? 1 : 2);
            } else if (op == CONST && next == IF) {
                decideIf(i, number != 0);
            } else {
                return false;
            }
            return true;
        }

        private static int contrary(int op) {
            int base = op >= EQ_LONG ? EQ_LONG : EQ;
            switch (op - base) {
                case 0:
                    return base + 1;
                case 1:
                    return base;
                case 2:
                    return base + 8;
                case 3:
                    return base + 9;
                case 4:
                    return base + 6;
                case 5:
                    return base + 7;
                case 6:
                    return base + 4;
                case 7:
                    return base + 5;
                case 8:
                    return base + 2;
                default:
                    return base + 3;
            }
        }

        /** An if behind a const. */
        private void decideIf(int i, boolean holds) {
            int middle = body.closing(i + 1, true);
            int end = body.closing(i + 1, false);
            boolean hasElse = body.op(middle) == ELSE;
            if (!holds && !hasElse) {
                body.cut(i, end - i + 1);
                return;
            }
            body.set(i + 1, BLOCK, body.with(i + 1));
            if (hasElse && holds) {
                body.cut(middle, end - middle);
            }
            if (!holds) {
                body.cut(i + 2, middle - i - 1);
            }
            body.cut(i, 1);
        }

        // ---- DEAD.

        private void dropDead() {
            int kept = 0;
            int deep = 0;
            boolean isDead = false;
            for (int i = 0; i < body.count; i++) {
                int op = body.op(i);
                boolean ends = op == CLOSE || op == ELSE;
                if (isDead && deep == 0 && ends) {
                    isDead = false;
                } else if (isDead) {
                    deep = Body.opens(op) ? deep + 1 : op == CLOSE ? deep - 1 : deep;
                }
                if (!isDead) {
                    body.set(kept, op, body.with(i));
                    kept++;
                    isDead = op == BR || op == BR_TABLE || op == RETURN || op == UNREACHABLE;
                }
            }
            body.count = kept;
        }

        // ---- BLOCKS.

        private void dropBlocks() {
            int i = 0;
            for (int k = 0; k < MANY && i < body.count; k++) {
                i = dropBlock(i) ? Math.max(0, i - 2) : i + 1;
            }
        }

        private boolean dropBlock(int i) {
            int op = body.op(i);
            int next = body.op(i + 1);
            if (op == IF && (next == CLOSE || next == ELSE && body.op(i + 2) == CLOSE)) {
                body.set(i, DROP, NONE);
                body.cut(i + 1, next == CLOSE ? 1 : 2);
                return true;
            }
            // The if has no value: with one this else would lack it.
            if (op == ELSE && next == CLOSE) {
                body.cut(i, 1);
                return true;
            }
            if (op != BLOCK && op != LOOP) {
                return false;
            }
            int end = body.closing(i, false);
            if (isGoneTo(i, end)) {
                return false;
            }
            pullBack(i, end);
            body.cut(end, 1);
            body.cut(i, 1);
            return true;
        }

        /** Whether something within a block goes to it. */
        private boolean isGoneTo(int from, int end) {
            int deep = 0;
            boolean is = false;
            for (int i = from + 1; i < end && !is; i++) {
                int op = body.op(i);
                deep = Body.opens(op) ? deep + 1 : op == CLOSE ? deep - 1 : deep;
                if (op == BR || op == BR_IF) {
                    is = body.with(i) == deep;
                } else if (op == BR_TABLE) {
                    for (int p = 0; p <= body.rowSize(body.with(i)); p++) {
                        is = is || body.rowPlace(body.with(i), p) == deep;
                    }
                }
            }
            return is;
        }

        /** What goes beyond a block that goes is 1 less. */
        private void pullBack(int from, int end) {
            int deep = 0;
            for (int i = from + 1; i < end; i++) {
                int op = body.op(i);
                long with = body.with(i);
                deep = Body.opens(op) ? deep + 1 : op == CLOSE ? deep - 1 : deep;
                if ((op == BR || op == BR_IF) && with > deep) {
                    body.set(i, op, with - 1);
                } else if (op == BR_TABLE) {
                    for (int p = 0; p <= body.rowSize(with); p++) {
                        int place = body.rowPlace(with, p);
                        body.setRowPlace(with, p, place > deep ? place - 1 : place);
                    }
                }
            }
        }

        // ---- JUMPS.

        private void shortenJumps() {
            body.link();
            for (int i = 0; i < body.count; i++) {
                for (int k = 0; k < body.count && canGoOn(i); k++) {
                    int end = body.endOf(body.target(i, body.with(i)));
                    body.set(i, body.op(i), body.with(i) + 1 + body.with(end + 1));
                }
            }
        }

        private boolean canGoOn(int i) {
            if (body.op(i) != BR && body.op(i) != BR_IF) {
                return false;
            }
            int to = body.target(i, body.with(i));
            boolean isPlain = (body.op(to) == BLOCK || body.op(to) == IF) && body.with(to) == NO_SORT;
            int next = isPlain ? body.endOf(to) + 1 : NONE;
            return body.op(next) == BR && takesNothing(body.target(next, body.with(next)));
        }

        private boolean takesNothing(int to) {
            return to == NONE ? module.result(body.signature) == NO_SORT
                : body.op(to) == LOOP || body.with(to) == NO_SORT;
        }

        // ---- LIVE locals.

        /** Finds for each instruction what is LIVE ahead of it. */
        private void findLive(int locals) {
            width = (locals >> 6) + 1;
            int many = body.count * width;
            if (live.length < many) {
                live = new long[many * 2];
            }
            if (behind.length < width) {
                behind = new long[width];
            }
            Arrays.fill(live, 0, many, 0L);
            body.link();
            boolean isChanged = true;
            for (int round = 0; round < MANY && isChanged; round++) {
                isChanged = false;
                for (int i = body.count - 1; i >= 0; i--) {
                    findBehind(i);
                    isChanged = keepLive(i) || isChanged;
                }
            }
        }

        /** Takes what an instruction does from what is LIVE behind it. */
        private boolean keepLive(int i) {
            int op = body.op(i);
            int local = Maker.isOfLocal(op) ? (int) body.with(i) : NONE;
            boolean isChanged = false;
            for (int w = 0; w < width && w < behind.length; w++) {
                long row = behind[w];
                if (local >= 0 && local >> 6 == w) {
                    long bit = 1L << (local & 63);
                    row = op == LOCAL_GET ? row | bit : row & ~bit;
                }
                int at = i * width + w;
                if (at < live.length && live[at] != row) {
                    live[at] = row;
                    isChanged = true;
                }
            }
            return isChanged;
        }

        /** Finds what is LIVE behind an instruction. */
        private void findBehind(int i) {
            Arrays.fill(behind, 0L);
            int op = body.op(i);
            switch (op) {
                case UNREACHABLE:
                case RETURN:
                    break;
                case BR:
                    joinTarget(i, body.with(i));
                    break;
                case BR_IF:
                    join(i + 1);
                    joinTarget(i, body.with(i));
                    break;
                case BR_TABLE:
                    for (int p = 0; p <= body.rowSize(body.with(i)); p++) {
                        joinTarget(i, body.rowPlace(body.with(i), p));
                    }
                    break;
                case IF:
                    join(i + 1);
                    join(body.op(body.mate(i)) == ELSE ? body.mate(i) + 1 : body.mate(i));
                    break;
                case ELSE:
                    join(body.mate(i));
                    break;
                default:
                    join(i + 1);
                    break;
            }
        }

        private void joinTarget(int i, long out) {
            int to = body.target(i, out);
            if (to != NONE) {
                join(body.op(to) == LOOP ? to : body.endOf(to));
            }
        }

        private void join(int i) {
            for (int w = 0; w < width && w < behind.length && i >= 0 && i < body.count; w++) {
                behind[w] |= live[i * width + w];
            }
        }

        private boolean isBehind(int local) {
            int w = local >> 6;
            return w >= 0 && w < behind.length && (behind[w] >> (local & 63) & 1) == 1;
        }

        // ---- STORES: what goes keeps nothing LIVE, so that once is enough.

        private void dropStores() {
            findLive(module.localsOf(body));
            for (int i = 0; i < body.count; i++) {
                int op = body.op(i);
                findBehind(i);
                if ((op == LOCAL_SET || op == LOCAL_TEE) && !isBehind((int) body.with(i))) {
                    body.set(i, op == LOCAL_SET ? DROP : NONE, NONE);
                }
            }
            int kept = 0;
            for (int i = 0; i < body.count; i++) {
                if (body.op(i) != NONE) {
                    body.set(kept, body.op(i), body.with(i));
                    kept++;
                }
            }
            body.count = kept;
        }

        // ---- SHARE.

        private void share() {
            int locals = module.localsOf(body);
            int parameters = module.parameters(body.signature);
            findLive(locals);
            if (standsFor.length < locals) {
                standsFor = new int[locals * 2];
                numbers = new int[locals * 2];
                isUsed = new int[locals * 2];
            }
            if (conflicts.length < locals * width) {
                conflicts = new long[locals * width * 2];
            }
            findConflicts(locals, parameters);
            joinLocals(locals, parameters);
            numberLocals(locals, parameters);
        }

        private void findConflicts(int locals, int parameters) {
            Arrays.fill(conflicts, 0, locals * width, 0L);
            Arrays.fill(isUsed, 0);
            for (int i = 0; i < body.count; i++) {
                findBehind(i);
                if (Maker.isOfLocal(body.op(i))) {
                    int local = (int) body.with(i);
                    isUsed[Math.max(0, Math.min(local, isUsed.length - 1))] = 1;
                    if (body.op(i) != LOCAL_GET) {
                        addBehind(local);
                    }
                }
                conflictAll(locals);
            }
            Arrays.fill(behind, 0L);
            join(0);
            for (int k = 0; k < parameters; k++) {
                addBehind(k);
            }
            conflictAll(locals);
        }

        private void addBehind(int local) {
            int w = local >> 6;
            if (w >= 0 && w < behind.length) {
                behind[w] |= 1L << (local & 63);
            }
        }

        /** All that is in the row at hand conflicts with all that is in it. */
        private void conflictAll(int locals) {
            for (int k = 0; k < locals; k++) {
                if (isBehind(k)) {
                    for (int w = 0; w < width && w < behind.length; w++) {
                        conflicts[k * width + w] |= behind[w];
                    }
                }
            }
        }

        private boolean isConflict(int one, int other) {
            int at = one * width + (other >> 6);
            return at >= 0 && at < conflicts.length && (conflicts[at] >> (other & 63) & 1) == 1;
        }

        /** A group conflicts with all with which one of it does: that is kept at the one that stands for it. */
        private void joinLocals(int locals, int parameters) {
            for (int k = 0; k < locals; k++) {
                standsFor[k] = k < parameters || isUsed[k] == 1 ? k : NONE;
                for (int ahead = 0; ahead < k && k >= parameters && standsFor[k] == k; ahead++) {
                    boolean isAlone = standsFor[ahead] == ahead;
                    if (isAlone && module.sortOf(body, ahead) == module.sortOf(body, k) && !isConflict(ahead, k)) {
                        standsFor[k] = ahead;
                        for (int w = 0; w < width; w++) {
                            conflicts[ahead * width + w] |= conflicts[k * width + w];
                        }
                    }
                }
            }
        }

        private void numberLocals(int locals, int parameters) {
            int next = 0;
            for (int k = 0; k < locals; k++) {
                if (standsFor[k] == k) {
                    body.moveSort(k - parameters, next - parameters);
                    numbers[k] = next;
                    next++;
                }
            }
            body.sortCount = Math.max(0, next - parameters);
            for (int i = 0; i < body.count; i++) {
                int local = Maker.isOfLocal(body.op(i)) ? (int) body.with(i) : NONE;
                if (local >= 0 && local < locals && standsFor[local] >= 0) {
                    body.set(i, body.op(i), numbers[standsFor[local]]);
                }
            }
        }
    }

    /** A RUN of an export: carries a module out, an instruction a step. */
    private static final class Run {
        private static final int FRAMES_MOST = 60;
        private static final int AT_FUNCTION = 0;
        private static final int AT_INSTRUCTION = 1;
        private static final int AT_LOCALS = 2;
        private static final int AT_STACK = 3;
        private static final int FRAME_SIZE = 4;
        Module module;
        final byte[] memory = new byte[8 * PAGE];
        int pages;
        final long[] globals = new long[Module.GLOBALS_MOST];
        private final int[] table = new int[Module.ENTRIES_MOST];
        private final int[] input = new int[INPUT_MOST];
        private int inputCount;
        int inputAt;
        final int[] outs = new int[OUT_KEPT];
        int outCount;
        int outSum;
        /** Locals and stacks of all frames, one frame behind the other. */
        private long[] stack = new long[256];
        private int top;
        private final int[] frames = new int[FRAMES_MOST * FRAME_SIZE];
        int depth;
        int deepest;
        int state;
        int steps;
        long result;

        /** Sets all up ahead of the first step; give() and enter() follow. */
        void ready(Module m, int[] numbers, int many) {
            module = m;
            pages = Math.max(0, m.least);
            inputCount = Math.min(many, INPUT_MOST);
            System.arraycopy(numbers, 0, input, 0, Math.min(numbers.length, INPUT_MOST));
            System.arraycopy(m.globalFirsts, 0, globals, 0, globals.length);
            inputAt = 0;
            outCount = 0;
            outSum = 17;
            top = 0;
            depth = 0;
            deepest = 0;
            state = RUN_GOING;
            steps = 0;
            result = 0;
            Arrays.fill(table, NONE);
            for (int k = 0; k < m.elementCount; k++) {
                int from = m.listedEnd(k - 1);
                for (int f = from; f < m.listedEnd(k) && f < m.listed.length; f++) {
                    int at = m.elementPlace(k) + f - from;
                    if (at >= 0 && at < table.length) {
                        table[at] = m.listed[f];
                    }
                }
            }
            Arrays.fill(memory, (byte) 0);
            for (int k = 0; k < m.dataCount; k++) {
                int from = m.laidEnd(k - 1);
                int at = m.dataPlace(k);
                int length = m.laidEnd(k) - from;
                if (at >= 0 && length > 0 && at + length <= memory.length) {
                    System.arraycopy(m.laid, from, memory, at, length);
                }
            }
        }

        void give(long number, int sort) {
            push(sort == I64 ? number : (int) number);
        }

        /** Does at most so many steps; how many it did. */
        int go(int most) {
            int done = 0;
            for (; done < most && state == RUN_GOING; done++) {
                one();
            }
            steps += done;
            return done;
        }

        int frame(int newest, int field) {
            int at = (depth - 1 - newest) * FRAME_SIZE + field;
            return newest >= 0 && newest < depth && at < frames.length ? frames[at] : NONE;
        }

        private void setFrame(int field, int what) {
            int at = (depth - 1) * FRAME_SIZE + field;
            if (at >= 0 && at < frames.length) {
                frames[at] = what;
            }
        }

        int function() {
            return frame(0, AT_FUNCTION);
        }

        int instruction() {
            return frame(0, AT_INSTRUCTION);
        }

        /** How much lies on the stack of the newest frame. */
        int onStack() {
            return depth > 0 ? top - frame(0, AT_STACK) : 0;
        }

        int onAllStacks() {
            int many = onStack();
            for (int k = 1; k < depth; k++) {
                many += frame(k - 1, AT_LOCALS) - frame(k, AT_STACK);
            }
            return many;
        }

        /** What lies so deep below the top. */
        long below(int deep) {
            int at = top - 1 - deep;
            return at >= 0 && at < stack.length ? stack[at] : 0;
        }

        int localsOf(int newest) {
            int f = frame(newest, AT_FUNCTION);
            return f == NONE ? 0 : module.localsOf(module.body(f - module.importCount));
        }

        long local(int newest, int k) {
            int at = frame(newest, AT_LOCALS) + k;
            return at >= 0 && at < stack.length ? stack[at] : 0;
        }

        int memorySum() {
            int sum = 17;
            for (int k = 0; k < pages * PAGE && k < memory.length; k++) {
                sum = sum * 31 + (memory[k] & 255);
            }
            return sum;
        }

        /** Whether two runs, which no bound has stopped, have ended alike. */
        boolean isLike(Run other) {
            boolean is = state == other.state && result == other.result && outCount == other.outCount
                && outSum == other.outSum && pages == other.pages && hasMemory(other.memory);
            for (int k = 0; k < module.globalCount && k < globals.length && is; k++) {
                is = globals[k] == other.globals[k];
            }
            return is;
        }

        boolean hasMemory(byte[] wanted) {
            boolean has = true;
            for (int k = 0; k < pages * PAGE && k < memory.length && k < wanted.length && has; k++) {
                has = memory[k] == wanted[k];
            }
            return has;
        }

        private void push(long value) {
            if (top >= stack.length) {
                stack = Arrays.copyOf(stack, stack.length * 2);
            }
            stack[top] = value;
            top++;
        }

        private long pop() {
            if (top <= 0) {
                return 0;
            }
            top--;
            return stack[top];
        }

        private void setTop(long value) {
            if (top > 0) {
                stack[top - 1] = value;
            }
        }

        private Body bodyAtHand() {
            return module.body(frame(0, AT_FUNCTION) - module.importCount);
        }

        /** What comes next is known ahead; what jumps tells it anew. */
        private void one() {
            Body body = bodyAtHand();
            int i = frame(0, AT_INSTRUCTION);
            int op = body.op(i);
            long with = body.with(i);
            setFrame(AT_INSTRUCTION, i + 1);
            switch (Body.shape(op)) {
                case WITH_SORT:
                    if (op == IF && (int) pop() == 0) {
                        setFrame(AT_INSTRUCTION, body.mate(i) + 1);
                    }
                    break;
                case WITH_INDEX:
                    indexed(body, i, op, with);
                    break;
                case WITH_TYPE:
                    indirect((int) with);
                    break;
                case WITH_OFFSET:
                    inMemory(op, with);
                    break;
                case WITH_ZERO:
                    if (op == SIZE) {
                        push(pages);
                    } else {
                        grow();
                    }
                    break;
                case WITH_WORD:
                case WITH_LONG:
                    push(with);
                    break;
                case WITH_ROW:
                    long chosen = pop() & UNSIGNED;
                    int last = body.rowSize(with);
                    jump(body, i, body.rowPlace(with, chosen < last ? (int) chosen : last));
                    break;
                default:
                    plain(body, i, op);
                    break;
            }
        }

        private void indexed(Body body, int i, int op, long with) {
            int at = frame(0, AT_LOCALS) + (int) with;
            switch (op) {
                case BR:
                    jump(body, i, with);
                    break;
                case BR_IF:
                    if ((int) pop() != 0) {
                        jump(body, i, with);
                    }
                    break;
                case CALL:
                    call((int) with);
                    break;
                case LOCAL_GET:
                    push(at >= 0 && at < top ? stack[at] : 0);
                    break;
                case LOCAL_SET:
                case LOCAL_TEE:
                    if (at >= 0 && at < top) {
                        stack[at] = below(0);
                    }
                    top -= op == LOCAL_SET ? 1 : 0;
                    break;
                case GLOBAL_GET:
                    push(with < globals.length ? globals[(int) with] : 0);
                    break;
                default:
                    if (with < globals.length) {
                        globals[(int) with] = pop();
                    }
                    break;
            }
        }

        /** Goes to a block, loop or if that is so many out, or leaves the function. */
        private void jump(Body body, int i, long out) {
            int to = body.target(i, out);
            if (to == NONE) {
                leave();
                return;
            }
            boolean isLoop = body.op(to) == LOOP;
            boolean takes = !isLoop && body.with(to) != NO_SORT;
            long value = below(0);
            top = Math.max(0, frame(0, AT_STACK) + body.heightAt(to));
            if (takes) {
                push(value);
            }
            setFrame(AT_INSTRUCTION, isLoop ? to + 1 : body.endOf(to) + 1);
        }

        private void indirect(int type) {
            long entry = below(0) & UNSIGNED;
            int f = entry < module.entries && entry < table.length ? table[(int) entry] : NONE;
            if (f == NONE || !module.isSameType(module.typeOf(f), type)) {
                state = RUN_TABLE;
                return;
            }
            if (f >= module.importCount && depth >= FRAMES_MOST) {
                state = RUN_DEEP;
                return;
            }
            pop();
            call(f);
        }

        private void call(int f) {
            if (f >= module.importCount) {
                enter(f);
            } else if (module.importsGet(f)) {
                push(inputAt < inputCount && inputAt < input.length ? input[inputAt] : -1);
                inputAt = Math.min(inputAt + 1, inputCount);
            } else {
                int number = (int) pop();
                if (outCount < OUT_KEPT) {
                    outs[outCount] = number;
                }
                outCount++;
                outSum = outSum * 31 + number;
            }
        }

        /** The parameters lie on the stack: they become the first locals where they are. */
        void enter(int f) {
            if (depth >= FRAMES_MOST) {
                state = RUN_DEEP;
                return;
            }
            Body body = module.body(f - module.importCount);
            int locals = Math.max(0, top - module.parameters(body.signature));
            for (int k = 0; k < body.sortCount; k++) {
                push(0);
            }
            depth++;
            deepest = Math.max(deepest, depth);
            setFrame(AT_FUNCTION, f);
            setFrame(AT_INSTRUCTION, 0);
            setFrame(AT_LOCALS, locals);
            setFrame(AT_STACK, top);
        }

        private void leave() {
            int sort = module.result(bodyAtHand().signature);
            long value = sort != NO_SORT ? below(0) : 0;
            top = Math.max(0, frame(0, AT_LOCALS));
            depth--;
            if (depth == 0) {
                state = RUN_ENDED;
                result = value;
            } else if (sort != NO_SORT) {
                push(value);
            }
        }

        private void inMemory(int op, long offset) {
            boolean isStore = op == STORE || op == STORE_LONG || op == STORE_BYTE;
            int size = op == LOAD_BYTE || op == STORE_BYTE ? 1 : op == LOAD_LONG || op == STORE_LONG ? 8 : 4;
            long place = (below(isStore ? 1 : 0) & UNSIGNED) + offset;
            if (place + size > pages * PAGE || place + size > memory.length) {
                state = RUN_MEMORY;
                return;
            }
            int at = (int) place;
            if (isStore) {
                long number = pop();
                pop();
                for (int k = 0; k < size; k++) {
                    memory[at + k] = (byte) (number >> 8 * k);
                }
                return;
            }
            long number = 0;
            for (int k = 0; k < size; k++) {
                number |= (memory[at + k] & 255L) << 8 * k;
            }
            setTop(size == 4 ? (int) number : number);
        }

        private void grow() {
            long more = pop() & UNSIGNED;
            if (pages + more > module.most) {
                push(-1);
            } else {
                push(pages);
                pages += (int) more;
            }
        }

        private void plain(Body body, int i, int op) {
            switch (op) {
                case NOP:
                    break;
                case UNREACHABLE:
                    state = RUN_UNREACHABLE;
                    break;
                case ELSE:
                    setFrame(AT_INSTRUCTION, body.mate(i) + 1);
                    break;
                case CLOSE:
                    if (i == body.count - 1) {
                        leave();
                    }
                    break;
                case RETURN:
                    leave();
                    break;
                case DROP:
                    pop();
                    break;
                case SELECT:
                    boolean isLower = (int) pop() != 0;
                    long upper = pop();
                    setTop(isLower ? below(0) : upper);
                    break;
                default:
                    reckon(op);
                    break;
            }
        }

        private void reckon(int op) {
            if (!Body.isOfTwo(op)) {
                setTop(ofOne(op, below(0)));
            } else if (traps(op, below(1), below(0))) {
                state = RUN_DIVISION;
            } else {
                long right = pop();
                setTop(ofTwo(op, below(0), right));
            }
        }

        /** Whether a division cannot be done. */
        static boolean traps(int op, long left, long right) {
            boolean isLong = Body.taken(op) == I64;
            int plain = isLong ? op - LONG_RECKONS : op;
            boolean isLeast = left == (isLong ? Long.MIN_VALUE : Integer.MIN_VALUE);
            return (plain == DIV || plain == REM) && (right == 0 || plain == DIV && right == -1 && isLeast);
        }

        /** eqz, wrap and extend; words lie as longs with their sign. */
        static long ofOne(int op, long value) {
            return op == WRAP ? (int) value : op == EXTEND ? value : value == 0 ? 1 : 0;
        }

        static long ofTwo(int op, long left, long right) {
            boolean isLong = Body.taken(op) == I64;
            if (Body.isComparison(op)) {
                return compared(isLong ? op - LONG_COMPARES : op, left, right) ? 1 : 0;
            }
            long number = reckoned(isLong ? op - LONG_RECKONS : op, left, right, isLong);
            return isLong ? number : (int) number;
        }

        /** Words with their sign are in the same order as longs without one, too. */
        private static boolean compared(int op, long left, long right) {
            boolean isUnsigned = (op - EQ) % 2 == 1 && op > NE;
            long one = isUnsigned ? left ^ Long.MIN_VALUE : left;
            long other = isUnsigned ? right ^ Long.MIN_VALUE : right;
            switch (op) {
                case EQ:
                    return one == other;
                case NE:
                    return one != other;
                case 72:
                case 73:
                    return one < other;
                case 74:
                case 75:
                    return one > other;
                case 76:
                case 77:
                    return one <= other;
                default:
                    return one >= other;
            }
        }

        private static long reckoned(int op, long left, long right, boolean isLong) {
            long by = right & (isLong ? 63 : 31);
            switch (op) {
                case ADD:
                    return left + right;
                case SUB:
                    return left - right;
                case MUL:
                    return left * right;
                case DIV:
                    return right != 0 ? left / right : 0;
                case REM:
                    return right != 0 ? left % right : 0;
                case AND:
                    return left & right;
                case 114:
                    return left | right;
                case 115:
                    return left ^ right;
                case SHL:
                    return left << by;
                case 117:
                    return left >> by;
                default:
                    return (isLong ? left : left & UNSIGNED) >>> by;
            }
        }
    }
}
