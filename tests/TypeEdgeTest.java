/** Section 3: each sign with each pair of types, beside the rules written down anew; first, statements, calls. */
public final class TypeEdgeTest {
    private static final String HEAD = "int*p;char*q;int**r;long*s;char*t[2];int f(){return 0;}long g(){return 0;}int(*x)()=f;"
        + "long(*y)()=g;";
    private static final String IN = "void h(int i,char c,long l){";

    // Types, as they are read; a char is one of its own only as a PLACE.
    private static final int NO = -1;
    private static final int VOID = 0;
    private static final int INT = 1;
    private static final int LONG = 2;
    private static final int CHAR = 3;
    private static final int INT_P = 4;
    private static final int CHAR_P = 5;
    private static final int INT_PP = 6;
    private static final int LONG_P = 7;
    private static final int CHAR_PP = 8;
    private static final int F_INT = 9;
    private static final int F_LONG = 10;
    private static final String[] NAMES = {"void", "int", "long", "char", "int*", "char*", "int**", "long*", "char**"};

    private static final String[] EXPS = {"i", "c", "l", "p", "q", "r", "s", "t", "f", "g", "x", "y", "put(1)", "0", "000", "(0)", "0L",
        "'\\0'", "1", "*q", "*s", "\"a\"", "t[1]", "&p", "&*q", "(sizeof(long))", "f()", "g()"};
    private static final int[] TYPES = {INT, CHAR, LONG, INT_P, CHAR_P, INT_PP, LONG_P, CHAR_PP, F_INT, F_LONG, F_INT, F_LONG, VOID,
        INT, INT, INT, LONG, INT, INT, CHAR, LONG, CHAR_P, CHAR_P, INT_PP, CHAR_P, INT, INT, LONG};
    private static final String[] PLACES = {"i", "c", "l", "p", "q", "r", "s", "x", "y", "*q", "*s", "t[1]", "(i)", "((*p))", "p[2]", "(q)[3]"};

    public static void main(String[] args) {
        signsOfTwo();
        signsOfOne();
        casts();
        choices();
        assignments();
        indexes();
        calls();
        conversions();
        conditions();
        firsts();
        constantsOfCase();
        nothingIsAskedOfFaults();
        Case.end();
    }

    private static int read(int type) {
        return type == CHAR ? INT : type;
    }

    private static boolean arithmetic(int type) {
        return type == INT || type == LONG || type == CHAR;
    }

    private static boolean pointer(int type) {
        return type >= INT_P && type <= CHAR_PP;
    }

    private static boolean function(int type) {
        return type >= F_INT;
    }

    private static int both(int one, int other) {
        return one == LONG || other == LONG ? LONG : INT;
    }

    private static boolean zero(String exp) {
        return exp.equals("0") || exp.equals("000");
    }

    private static boolean place(String exp) {
        for (String one : PLACES) {
            if (one.equals(exp)) {
                return true;
            }
        }
        return false;
    }

    private static boolean converts(String exp, int from, int to) {
        return arithmetic(from) && arithmetic(to) || (pointer(to) || function(to)) && (from == to || zero(exp));
    }

    private static int ofTwo(String sign, String one, int left, String other, int right) {
        boolean numbers = arithmetic(left) && arithmetic(right);
        switch (sign) {
            case "<<":
            case ">>":
                return numbers ? read(left) : NO;
            case "+":
                return numbers ? both(left, right) : pointer(left) && read(right) == INT ? left
                    : read(left) == INT && pointer(right) ? right : NO;
            case "-":
                return numbers ? both(left, right) : pointer(left) && read(right) == INT ? left
                    : pointer(left) && left == right ? INT : NO;
            case "<":
            case "<=":
            case ">":
            case ">=":
                return numbers || pointer(left) && left == right ? INT : NO;
            case "==":
            case "!=":
                boolean same = (pointer(left) || function(left)) && left == right;
                boolean toZero = (pointer(left) || function(left)) && zero(other);
                boolean fromZero = (pointer(right) || function(right)) && zero(one);
                return numbers || same || toZero || fromZero ? INT : NO;
            case "&&":
            case "||":
                return left != VOID && right != VOID ? INT : NO;
            default:
                return numbers ? both(left, right) : NO;
        }
    }

    private static String fault(String statement) {
        return Case.fault(HEAD + IN + statement + "}");
    }

    /** Of an exp with an @ ahead of the token at which it is wrong: whether it is of a type, or wrong there. */
    private static void typed(String marked, int due) {
        int at = HEAD.length() + IN.length() + marked.indexOf('@');
        String exp = marked.replace("@", "");
        Case.is("fault of " + exp, fault(exp + ";"), due == NO ? "3 at " + at : "none");
        if (due != NO) {
            Case.is("type of " + exp, typeOf(exp), read(due));
        }
    }

    /** The type of an exp, by what it CONVERTS to. */
    private static int typeOf(String exp) {
        if (fault("p[" + exp + "];").equals("none")) {
            return INT;
        }
        if (fault("i=" + exp + ";").equals("none")) {
            return LONG;
        }
        for (int type = INT_P; type <= CHAR_PP; type++) {
            if (fault(NAMES[type] + " k=" + exp + ";").equals("none")) {
                return type;
            }
        }
        if (fault("x=" + exp + ";").equals("none")) {
            return F_INT;
        }
        return fault("y=" + exp + ";").equals("none") ? F_LONG : VOID;
    }

    private static void signsOfTwo() {
        String[] signs = {"+", "-", "*", "/", "%", "&", "|", "^", "<<", ">>", "<", "<=", ">", ">=", "==", "!=", "&&", "||"};
        for (String sign : signs) {
            for (int a = 0; a < EXPS.length; a++) {
                for (int b = 0; b < EXPS.length; b++) {
                    typed(EXPS[a] + " @" + sign + " " + EXPS[b], ofTwo(sign, EXPS[a], TYPES[a], EXPS[b], TYPES[b]));
                }
            }
        }
    }

    private static void signsOfOne() {
        for (int a = 0; a < EXPS.length; a++) {
            int type = TYPES[a];
            String exp = EXPS[a];
            typed("@- " + exp, arithmetic(type) ? read(type) : NO);
            typed("@~" + exp, arithmetic(type) ? read(type) : NO);
            typed("@!" + exp, type != VOID ? INT : NO);
            typed("@*" + exp, type == INT_P ? INT : type == CHAR_P ? CHAR : type == INT_PP ? INT_P : type == LONG_P ? LONG
                : type == CHAR_PP ? CHAR_P : NO);
            boolean steps = place(exp) && (arithmetic(type) || pointer(type));
            typed("@++" + exp, steps ? read(type) : NO);
            typed("@-- " + exp, steps ? read(type) : NO);
            if (exp.charAt(0) != '*' && exp.charAt(0) != '&') {
                typed(exp + "@++", steps ? read(type) : NO);
                typed(exp + "@--", steps ? read(type) : NO);
            }
            int[] pointers = {NO, INT_P, LONG_P, CHAR_P, INT_PP, CHAR_PP};
            boolean known = type >= INT && type <= CHAR_P;
            if (!place(exp) || function(type)) {
                typed("@& " + exp, NO);
            } else if (known) {
                typed("@& " + exp, pointers[type]);
            } else {
                Case.is("fault of &" + exp, fault("&" + exp + ";"), "none");
            }
        }
        for (String exp : PLACES) {
            boolean isFunction = exp.equals("x") || exp.equals("y");
            String due = isFunction ? "3 at " + (HEAD + IN).length() : "none";
            Case.is("fault of ++" + exp, fault("++" + exp + ";"), due);
            Case.is("fault of &" + exp, fault("&" + exp + ";"), due);
            Case.is("fault of " + exp + "=0", fault(exp + "=0;"), "none");
        }
        typed("@&t", NO);
        typed("@&h", NO);
        typed("@&get()", NO);
        typed("@&(i+1)", NO);
        typed("@&i++", NO);
        typed("@get", NO);
        typed("@put", NO);
        typed("-@get", NO);
    }

    private static void casts() {
        for (int a = 0; a < EXPS.length; a++) {
            for (int to = INT; to <= CHAR_PP; to++) {
                boolean can = arithmetic(TYPES[a]) || pointer(TYPES[a]);
                typed("@(" + NAMES[to] + ")" + EXPS[a], can ? read(to) : NO);
            }
        }
    }

    private static void choices() {
        for (int a = 0; a < EXPS.length; a++) {
            for (int b = 0; b < EXPS.length; b++) {
                int left = TYPES[a];
                int right = TYPES[b];
                int due = arithmetic(left) && arithmetic(right) ? both(left, right)
                    : !arithmetic(left) && converts(EXPS[b], right, left) ? left
                    : !arithmetic(right) && converts(EXPS[a], left, right) ? right : NO;
                typed("1?" + EXPS[a] + "@:" + EXPS[b], due);
            }
            typed(EXPS[a] + "@?1:2", TYPES[a] == VOID ? NO : INT);
        }
    }

    private static int typeOfPlace(String exp) {
        for (int k = 0; k < EXPS.length; k++) {
            if (EXPS[k].equals(exp)) {
                return TYPES[k];
            }
        }
        return exp.equals("(q)[3]") ? CHAR : INT;
    }

    private static void assignments() {
        String[] signs = {"", "+", "-", "*", "/", "%", "&", "|", "^", "<<", ">>"};
        for (String sign : signs) {
            for (String left : PLACES) {
                for (int b = 0; b < EXPS.length; b++) {
                    int to = typeOfPlace(left);
                    int made = sign.isEmpty() ? TYPES[b] : ofTwo(sign, left, to, EXPS[b], TYPES[b]);
                    boolean fits = sign.isEmpty() ? converts(EXPS[b], made, to)
                        : arithmetic(made) && arithmetic(to) || made != NO && made == to && made != VOID;
                    typed(left + " @" + sign + "= " + EXPS[b], fits ? to : NO);
                }
            }
            for (String left : new String[] {"t", "f", "1", "f()", "\"a\"", "(i+1)", "(1?i:i)", "(i=1)", "i++", "put(1)", "sizeof(int)"}) {
                typed(left + " @" + sign + "= 1", NO);
            }
        }
    }

    private static void indexes() {
        for (int a = 0; a < EXPS.length; a++) {
            if (EXPS[a].charAt(0) == '*' || EXPS[a].charAt(0) == '&') {
                continue;
            }
            for (int b = 0; b < EXPS.length; b++) {
                boolean can = pointer(TYPES[a]) && read(TYPES[b]) == INT;
                int due = TYPES[a] == INT_P ? INT : TYPES[a] == CHAR_P ? CHAR : TYPES[a] == INT_PP ? INT_P : TYPES[a] == LONG_P ? LONG : CHAR_P;
                typed(EXPS[a] + "@[" + EXPS[b] + "]", can ? due : NO);
            }
        }
    }

    /** A call of a function, or by a variable or GLOBAL, of one parameter of each type. */
    private static void calls() {
        int[] wanted = {INT, LONG, CHAR, INT_P, CHAR_P, INT_PP, LONG_P, CHAR_PP, F_INT};
        String[] vars = {"int k", "long k", "char k", "int*k", "char*k", "int**k", "long*k", "char**k", "int(*k)()"};
        for (int w = 0; w < wanted.length; w++) {
            for (int a = 0; a < EXPS.length; a++) {
                String head = HEAD + "int z(" + vars[w] + "){return 1;}" + IN + "z(";
                String due = converts(EXPS[a], TYPES[a], wanted[w]) ? "none" : "3 at " + head.length();
                Case.is("fault of z(" + EXPS[a] + ") of " + vars[w], Case.fault(head + EXPS[a] + ");}"), due);
                if (w < 8) {
                    head = HEAD + "int(*z)(" + NAMES[wanted[w]] + ");" + IN + "z(";
                    due = converts(EXPS[a], TYPES[a], wanted[w]) ? "none" : "3 at " + head.length();
                    Case.is("fault of z(" + EXPS[a] + ") by " + vars[w], Case.fault(head + EXPS[a] + ");}"), due);
                }
            }
        }
        typed("@f(1)", NO);
        typed("@x(1)", NO);
        typed("@h(1,2)", NO);
        typed("@h(1,2,3,4)", NO);
        typed("h(1,2,3)", VOID);
        typed("h(@p,2,3)", NO);
        typed("h(1,@(p),3)", NO);
        typed("h(1,2,@put(1))", NO);
        typed("h(@p,q,r)", NO);
        typed("@get(0)", NO);
        typed("get()", INT);
        typed("@put()", NO);
        typed("@put(1,2)", NO);
        typed("put(@p)", NO);
        typed("put(@x)", NO);
        typed("put(1L)", VOID);
        typed("@i()", NO);
        typed("@p()", NO);
        typed("@t(1)", NO);
        typed("x()", INT);
        typed("y()", LONG);
        // A result that is a char is an int; a wrong one has no type.
        Case.good("char a(){return 1;}int b(int*c){return c[a()];}");
        Case.faultAt(3, "int a(int b){return @a(1,2)+a(a(3),4);}");
        Case.faultAt(3, "int a(int b,int*c){return a(1,0)+a(@c,a(1,0));}");
    }

    private static void conversions() {
        int[] wanted = {INT, LONG, CHAR, INT_P, CHAR_P, INT_PP, LONG_P, CHAR_PP, F_INT, F_LONG};
        String[] vars = {"int k", "long k", "char k", "int*k", "char*k", "int**k", "long*k", "char**k", "int(*k)()", "long(*k)()"};
        for (int w = 0; w < wanted.length; w++) {
            for (int a = 0; a < EXPS.length; a++) {
                String text = HEAD + IN + vars[w] + "=";
                String due = converts(EXPS[a], TYPES[a], wanted[w]) ? "none" : "3 at " + text.length();
                Case.is("fault of " + vars[w] + "=" + EXPS[a], Case.fault(text + EXPS[a] + ";}"), due);
                if (w < 8) {
                    text = HEAD + NAMES[wanted[w]] + " z(int i,char c,long l){return ";
                    due = converts(EXPS[a], TYPES[a], wanted[w]) ? "none" : "3 at " + text.length();
                    Case.is("fault of return " + EXPS[a] + " of " + vars[w], Case.fault(text + EXPS[a] + ";}"), due);
                }
            }
        }
        for (String exp : EXPS) {
            Case.is("fault of return of void", fault("return " + exp + ";"), "3 at " + (HEAD + IN).length());
        }
        Case.is("return of void", fault("return;"), "none");
        Case.faultAt(3, "int*a(){@return;}");
        Case.faultAt(3, "char a(){if(1)@return;}");
        Case.faultAt(3, "void a(){@return 1[2];}");
        Case.faultAt(3, "int a(){return(0)@[1];}");
    }

    private static void conditions() {
        for (int a = 0; a < EXPS.length; a++) {
            String due = TYPES[a] == VOID ? "3 at " : "none";
            int from = (HEAD + IN).length();
            Case.is("if", fault("if(" + EXPS[a] + ");"), due.equals("none") ? due : due + (from + 3));
            Case.is("while", fault("while(" + EXPS[a] + ");"), due.equals("none") ? due : due + (from + 6));
            Case.is("do", fault("do;while(" + EXPS[a] + ");"), due.equals("none") ? due : due + (from + 9));
            Case.is("for", fault("for(;" + EXPS[a] + ";);"), due.equals("none") ? due : due + (from + 5));
            Case.is("for", fault("for(" + EXPS[a] + ";;" + EXPS[a] + ");"), "none");
            String chosen = read(TYPES[a]) == INT ? "none" : "3 at " + (from + 7);
            Case.is("switch(" + EXPS[a] + ")", fault("switch(" + EXPS[a] + "){}"), chosen);
            Case.is("switch(" + EXPS[a] + ")", fault("switch(" + EXPS[a] + "){default:;}"), chosen);
        }
        // The FIRST token of an exp in brackets is the outermost bracket.
        Case.is("brackets", fault("if(((put(1))));"), "3 at " + ((HEAD + IN).length() + 3));
        Case.is("brackets", fault("int k=(p)+1;"), "3 at " + ((HEAD + IN).length() + 6));
        Case.is("brackets", fault("int k=(p+1);"), "3 at " + ((HEAD + IN).length() + 6));
        Case.is("brackets", fault("int k=*r;"), "3 at " + ((HEAD + IN).length() + 6));
        Case.is("brackets", fault("int k=(int*)i;"), "3 at " + ((HEAD + IN).length() + 6));
        Case.is("brackets", fault("p[1];int k=1?p:q;"), "3 at " + ((HEAD + IN).length() + 14));
    }

    /** first, of GLOBALS and arrays of each type. */
    private static void firsts() {
        String[] firsts = {"0", "00", "-0", "0L", "1", "-1", "1L", "-1L", "'a'", "'\\0'", "\"\"", "\"a\"", "\"ab\"", "\"abc\"", "{0}", "{1,-2L}",
            "{1,'a',3}", "{1,2,3,4}", "k", "m", "n", "get", "put"};
        String head = "int k(){return 1;}long m(){return 1;}int n;";
        String[] things = {"int z", "char z", "long z", "int z[3]", "char z[3]", "long z[3]", "int*z", "char*z", "char**z", "int*z[3]",
            "char*z[3]", "int(*z)()", "long(*z)()", "void(*z)()"};
        for (int t = 0; t < things.length; t++) {
            for (String first : firsts) {
                boolean constant = first.charAt(0) != '"' && first.charAt(0) != '{' && !(first.charAt(0) >= 'a' && first.charAt(0) <= 'z');
                boolean zero = first.equals("0") || first.equals("00");
                boolean row = first.charAt(0) == '"';
                boolean braces = first.charAt(0) == '{' && !first.equals("{1,2,3,4}");
                boolean may = t < 3 ? constant : t < 6 ? braces || t == 4 && row && first.length() < 5
                    : t < 9 ? zero || t == 7 && row : t >= 11 && (zero || t == 11 && first.equals("k") || t == 12 && first.equals("m"));
                String text = head + things[t] + "=";
                Case.is("fault of " + things[t] + "=" + first, Case.fault(text + first + ";"), may ? "none" : "3 at " + text.length());
            }
        }
        // A ROW has less signs than the array has cells; constants are no more than cells.
        Case.good("char a[1]=\"\";");
        Case.faultAt(3, "char a[1]=@\"b\";");
        Case.good("char a[41]=\"" + "x".repeat(40) + "\";");
        Case.faultAt(3, "char a[40]=@\"" + "x".repeat(40) + "\";");
        Case.good("int a[1]={1};");
        Case.faultAt(3, "int a[1]=@{1,2};");
        Case.good("long a[200]={" + "1,".repeat(199) + "1};");
        Case.faultAt(3, "long a[200]=@{" + "1,".repeat(200) + "1};");
    }

    private static void constantsOfCase() {
        Case.good("void a(){switch(1){case 2147483647:case -2147483647:case 'a':case '\\n':case -0:;}}");
        Case.faultAt(3, "void a(){switch(1){@case 0L:;}}");
        Case.faultAt(3, "void a(){switch(1){case 0:@case -1L:;}}");
        Case.faultAt(3, "void a(){switch(@1L){case 1L:;}}");
    }

    private static void nothingIsAskedOfFaults() {
        typed("-(*(@*i))", NO);
        typed("p@*2+q*3", NO);
        typed("1L@[1][2]", NO);
        typed("h(@f(1),p,q)", NO);
        typed("h(1,@f(1),q)", NO);
        typed("(p@*q)?put(1):put(1)", NO);
        typed("1?p@*q:put(1)", NO);
        typed("i=p@*q", NO);
        typed("t=p@*q", NO);
        typed("!(@&1)", NO);
        typed("(int*)(@~p)", NO);
        Case.is("if of a fault", fault("if(p*q)return 1;"), "3 at " + ((HEAD + IN).length() + 4));
        Case.is("switch of a fault", fault("switch(p*q){}"), "3 at " + ((HEAD + IN).length() + 8));
        Case.is("local of a fault", fault("int k=p*q;"), "3 at " + ((HEAD + IN).length() + 7));
        Case.is("return of a fault", fault("return p*q;"), "3 at " + (HEAD + IN).length());
        Case.faultAt(3, "int a(int*b){return b@*b;}");
        // A choice of which a part has a fault has no type: what holds it is not asked, though its token stands ahead.
        Case.faultAt(3, "void a(int*b){b=@get?1:2;}");
        Case.faultAt(3, "void a(int*b){b=1?@get:2;}");
        Case.faultAt(3, "void a(int*b){b=1?2:@get;}");
        Case.faultAt(3, "void a(int*b){1?b:@get;}");
        Case.faultAt(3, "void a(int*b){put(0)?b:@get;}");
        Case.faultAt(3, "void a(int*b){b=put(0)@?1:2;}");
        Case.faultAt(3, "void a(int*b){b=1?b@:2;}");
        Case.faultAt(3, "int*a(int b){if(b)return b?@get:b;return 0;}");
        // So has a call of which an exp does not CONVERT, and one by a NAME that cannot be called so.
        Case.faultAt(3, "int a(int b);void c(int*d){d=a(@d);}int a(int b){return 1;}");
        Case.faultAt(3, "int a(int b,int e);void c(int*d){d=a(1,@d);}int a(int b,int e){return 1;}");
        Case.faultAt(3, "int a(int b,int e);void c(int*d){d=a(@d,d);}int a(int b,int e){return 1;}");
        Case.faultAt(3, "int a(int b);void c(int*d){d=@a();}int a(int b){return 1;}");
        Case.faultAt(3, "int a(int b);void c(int*d){d=@d(1);}int a(int b){return 1;}");
        Case.faultAt(3, "int a(int b);int*c(int*d){return a(@d);}int a(int b){return 1;}");
        Case.faultAt(3, "int a(int b);void c(int*d){d=a(@get);}int a(int b){return 1;}");
        Case.faultAt(3, "int a(int b,int e);void c(int*d){d=a(@get,1);}int a(int b,int e){return 1;}");
        Case.faultAt(3, "int a(int b,int e);void c(int*d){d=a(1,@get);}int a(int b,int e){return 1;}");
        Case.faultAt(3, "int a(int b);void c(int*d){d=a(1,@get);}int a(int b){return 1;}");
        Case.faultAt(3, "int a(int b);void c(int*d){d=get(@get);}int a(int b){return 1;}");
        Case.faultAt(3, "void c(int*d){d=d[1@[2]];}");
        Case.faultAt(3, "void c(int*d){d=-@get;}");
        Case.faultAt(3, "void c(int*d){d=(int)@get;}");
        Case.faultAt(3, "void c(int*d){d=1&&@get;}");
        Case.faultAt(3, "void c(int*d){d=@get||1;}");
        Case.faultAt(3, "void c(int*d){d=1=@get;}");
        Case.faultAt(3, "void c(int*d){d@=1;}");
        // The first by its place, things and functions in any order.
        Case.faultAt(3, "int a(){return 1@[2];}int*b=1;");
        Case.faultAt(3, "int*b=@1;int a(){return 1[2];}");
        Case.faultAt(3, "void a(){@return 1[2];}");
        Case.faultAt(3, "int a(int*b){return a(@1)+a(2);}");
        Case.faultAt(3, "int a(int*b,int c){return a(@1,b);}");
    }
}
