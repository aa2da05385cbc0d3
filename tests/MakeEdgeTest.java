/** The edges of section 5 (promises 10, 12 to 14): where the code of a module becomes another one. */
public final class MakeEdgeTest {
    private static final int MOST = Integer.MAX_VALUE;

    public static void main(String[] args) {
        tablesOfSwitches();
        numbersOfCases();
        labelsOfSwitches();
        locals();
        frames();
        types();
        listsOfNone();
        steps();
        constants();
        results();
        nestedLoops();
        twelveFunctions();
        sizes();
        typesByTokens();
        Case.end();
    }

    private static int tables(String text) {
        Codekiln x = Case.made(text);
        return x.countOf(0, 14);
    }

    /** At least 2 cases, and the greatest number at most 39 above the least one, as numbers that do not go round. */
    private static void tablesOfSwitches() {
        int[][] near = {{0, 39}, {39, 0}, {-39, 0}, {-20, 19}, {MOST, MOST - 39}, {-MOST, -MOST + 39}, {5, 6}, {-1, 0}};
        int[][] far = {{0, 40}, {40, 0}, {-40, 0}, {-20, 20}, {MOST, MOST - 40}, {-MOST, -MOST + 40}, {-MOST, MOST}, {MOST, -1}, {-MOST, 1}, {-2, MOST}};
        for (String otherwise : new String[] {"", "default:;"}) {
            for (int[] pair : near) {
                String text = "void f(int n){switch(n){case " + pair[0] + ":" + otherwise + "case " + pair[1] + ":;}}";
                Case.is("tables of " + text, tables(text), 1);
                Codekiln x = Case.made(text);
                int at = 0;
                while (x.opAt(0, 2, at, 0) != 14) {
                    at++;
                }
                int spread = Math.max(pair[0], pair[1]) - Math.min(pair[0], pair[1]);
                Case.is("places", x.opAt(0, 2, at, 1), spread + 1);
                Case.is("the least one", x.opAt(0, 2, at - 2, 1), Math.min(pair[0], pair[1]));
                int blocks = otherwise.isEmpty() ? 2 : 3;
                int others = otherwise.isEmpty() ? 2 : 1;
                boolean isLess = pair[0] < pair[1];
                for (int k = 0; k <= spread + 1; k++) {
                    int due = k == spread + 1 || k > 0 && k < spread ? others : (k == 0) == isLess ? 0 : blocks - 1;
                    Case.is("place " + k, x.targetAt(0, 2, at, k), due);
                }
            }
            for (int[] pair : far) {
                String text = "void f(int n){switch(n){case " + pair[0] + ":" + otherwise + "case " + pair[1] + ":;}}";
                Case.is("tables of " + text, tables(text), 0);
                Codekiln x = Case.made(text);
                Case.is("tests", x.countOf(0, 70), 2);
                Case.is("br_if", x.countOf(0, 13), 2);
                Case.is("br", x.countOf(0, 12), 1);
            }
        }
        Case.is("one between", tables("void f(int n){switch(n){case 0:case 20:case 39:;}}"), 1);
        Case.is("one beyond", tables("void f(int n){switch(n){case 0:case 20:case 40:;}}"), 0);
        // Those of another switch do not count.
        Case.is("a switch in a switch", tables("void f(int n){switch(n){case 0:case 1:switch(n){case 50:;}}}"), 1);
    }

    private static void numbersOfCases() {
        Case.is("no label", tables("void f(int n){switch(n){}}"), 0);
        Case.is("default alone", tables("void f(int n){switch(n){default:;}}"), 0);
        Case.is("one case", tables("void f(int n){switch(n){case 1:;}}"), 0);
        Case.is("one case and default", tables("void f(int n){switch(n){case 1:default:;}}"), 0);
        Case.is("two cases", tables("void f(int n){switch(n){case 1:case 2:;}}"), 1);
        Case.codeOf("void f(int n){switch(n){case 1:default:put(1);}}",
            "32.0 33.1 2.64 2.64 2.64 32.1 65.1 70 13.0 12.1 11 11 65.1 16.1 11 11");
        StringBuilder twelve = new StringBuilder();
        for (int k = 0; k < 12; k++) {
            twelve.append("case ").append(k * 3).append(':');
        }
        Codekiln x = Case.made("void f(int n){switch(n){" + twelve + ";}}");
        Case.is("blocks of 12 labels", x.countOf(0, 2), 13);
        Case.is("table", x.countOf(0, 14), 1);
    }

    private static void labelsOfSwitches() {
        Case.codeOf("void f(int n){switch(n){default:put(1);case 7:put(2);break;case 9:put(3);}}",
            "32.0 33.1 2.64 2.64 2.64 2.64 32.1 65.7 107 14.1,0,2,0 11 65.1 16.1 11 65.2 16.1 12.1 11 65.3 16.1 11 11");
        Case.codeOf("void f(int n){switch(n){case 7:case 107:}}",
            "32.0 33.1 2.64 2.64 2.64 32.1 65.7 70 13.0 32.1 65.107 70 13.1 12.2 11 11 11 11");
        Codekiln x = Case.made("void f(int n){switch(n){case 1:switch(n){case 1:;}switch(n){}}switch(n){default:;}}");
        Case.is("n and three S", x.functionAt(0, 2, 2), 3);
    }

    private static String sorts(String text) {
        return Case.locals(Case.made(text), 0, 2);
    }

    /** P, A, T, U and S, each only if the code uses it. */
    private static void locals() {
        Case.is("none", sorts("void f(){}"), "[]");
        Case.is("parameters and locals", sorts("void f(char a,long b,int*c){long d;char e;int(*g)();}"), "[127, 126, 127, 126, 127, 127]");
        Case.is("PLACED ones", sorts("void f(char a,long b){long d;&d;&b;int e;int g[3];}"), "[127, 126, 127, 127]");
        Case.is("T", sorts("int g;void f(){g=1;}"), "[127]");
        Case.is("U", sorts("long g;void f(){g=1;}"), "[126]");
        Case.is("A and T", sorts("int g;void f(){g+=1;}"), "[127, 127]");
        Case.is("A and U", sorts("long g;void f(){g+=1;}"), "[127, 126]");
        Case.is("A and T", sorts("char g;void f(){g++;}"), "[127, 127]");
        Case.is("A and U", sorts("long g;void f(){--g;}"), "[127, 126]");
        Case.is("A, T and U", sorts("long g;int h;void f(){h++;--g;}"), "[127, 127, 126]");
        Case.is("T and U", sorts("long g;int h;void f(){g=h=1;}"), "[127, 126]");
        Case.is("P", sorts("void f(){int a[1];}"), "[127]");
        Case.is("P and T", sorts("void f(){int a[1];a[0]=1;}"), "[127, 127]");
        Case.is("P, A, T, U and S", sorts("void f(int n){long a[1];char b;&b;b++;a[0]=1;switch(n){case 1:;}}"), "[127, 127, 127, 127, 126, 127]");
        Case.is("a local with = is stored without T", sorts("void f(){int a=1;&a;}"), "[127]");
        Case.is("what is read needs none", sorts("int g;int f(){return g;}"), "[]");
        Case.is("what is LOOSE needs none", sorts("int f(int a){a+=1;a++;--a;return a=2;}"), "[127]");
        Case.is("S of each switch with a label", sorts("void f(int n){switch(n){default:;}switch(n){}switch(n){case 1:;}}"), "[127, 127, 127]");
    }

    private static void frames() {
        Codekiln x = Case.made("void f(){int a;}void g(){int a;&a;}void h(int a){&a;}");
        Case.is("without a FRAME", Case.code(x, 0, 2), "11");
        Case.is("with one", Case.code(x, 0, 3), "35.0 65.8 107 34.0 36.0 32.0 65.0 106 26 32.0 65.8 106 36.0 11");
        Case.is("with a parameter", Case.code(x, 0, 4), "35.0 65.8 107 34.1 36.0 32.1 32.0 54.0 32.1 65.0 106 26 32.1 65.8 106 36.0 11");
        Case.codeOf("void f(){char a[9];return;}", "35.0 65.16 107 34.0 36.0 32.0 65.16 106 36.0 15 32.0 65.16 106 36.0 11");
        Case.codeOf("long f(){char a[8];return 1;}", "35.0 65.8 107 34.0 36.0 65.1 172 32.0 65.8 106 36.0 15"
            + " 66.0 32.0 65.8 106 36.0 11");
    }

    /** Each once: of get, put, the functions, the calls by FUNCTION POINTERS. */
    private static void types() {
        String[] texts = {"", "int a(){return 1;}", "char a(){return 1;}", "void a(int*b){}", "void a(){}", "long a(){return 1;}",
            "void a(){}void b(){}", "int a(int b){return 1;}char c(char*d){return 1;}", "long a(long b){return 1;}long c(int b){return 1;}",
            "int(*a)();void b(){a();}", "long(*a)();void b(){a();}", "long(*a)();long b(){return a();}", "long(*a)();void b(){a;}",
            "long(*a)();int(*c)(long);void b(){a();c(1);a();}", "int(*a)(int);int(*c)(char*);void b(){a(1);c(0);}"};
        int[] due = {2, 2, 2, 2, 3, 3, 3, 3, 4, 3, 4, 3, 3, 5, 4};
        for (int k = 0; k < texts.length; k++) {
            Codekiln x = Case.made(texts[k]);
            Case.is("types of " + texts[k], x.moduleIs(0, 0), due[k]);
        }
        Codekiln x = Case.made("long a(int b){return 1;}int c(){return 2;}void d(int e){}long f(char*g){return 3;}");
        int[] numbers = {0, 1, 2, 0, 1, 2};
        for (int f = 0; f < numbers.length; f++) {
            Case.is("type of " + f, x.functionAt(0, f, 0), numbers[f]);
        }
        Case.is("byte of a value", x.functionAt(0, 2, 4), 126);
        Case.is("byte of a value", x.functionAt(0, 3, 4), 127);
        Case.is("byte of none", x.functionAt(0, 4, 4), 64);
        Case.is("byte of get", x.functionAt(0, 0, 4), 127);
        Case.is("byte of put", x.functionAt(0, 1, 4), 64);
        Case.is("parameters of put", x.functionAt(0, 1, 1), 1);
        Case.is("locals of an import", x.functionAt(0, 1, 2), 0);
        Case.is("instructions of an import", x.functionAt(0, 1, 3), 0);
    }

    /** One element has all functions, one data all bytes; none without any. */
    private static void listsOfNone() {
        int[][] due = {{0, 0, 1, 0}, {0, 1, 1, 0}, {1, 0, 2, 1}, {1, 1, 2, 1}, {0, 1, 1, 0}, {1, 1, 2, 1}};
        String[] texts = {"", "char a;", "void a(){}", "char b;void a(){}", "long b[200];", "void a(){\"\";}"};
        for (int k = 0; k < texts.length; k++) {
            Codekiln x = Case.made(texts[k]);
            Case.is("elements of " + texts[k], x.moduleIs(0, 6), due[k][0]);
            Case.is("data", x.moduleIs(0, 7), due[k][1]);
            Case.is("entries", x.moduleIs(0, 3), due[k][2]);
            Case.is("exports", x.moduleIs(0, 5), due[k][3]);
            Case.is("imports", x.moduleIs(0, 1), 2);
            Case.is("globals", x.moduleIs(0, 4), 1);
            Case.is("pages", x.moduleIs(0, 10) * 10 + x.moduleIs(0, 11), 44);
        }
        Codekiln x = Case.made("char a;long b[3]={1,2};char*c=\"xyz\";void f(){}");
        int bytes = x.programIs(0, 3);
        Case.is("bytes", bytes, 8 + 24 + 4 + 4);
        x.begin(0, 0, 0, 0, 0);
        for (int place = 0; place < 70; place++) {
            Case.is("memoryAt(0, " + place + ")", x.memoryAt(0, place), x.firstByte(0, place));
        }
        Case.is("TOP", x.globalAt(0, 0), 4096);
    }

    /** const STEP, mul or div_s, if STEP is not 1. */
    private static void steps() {
        String[] types = {"char", "int", "long", "char*", "long*"};
        int[] sizes = {1, 4, 8, 4, 4};
        for (int k = 0; k < types.length; k++) {
            String mul = sizes[k] == 1 ? "" : "65." + sizes[k] + " 108 ";
            String div = sizes[k] == 1 ? "" : " 65." + sizes[k] + " 109";
            String type = types[k] + "*";
            Case.codeOf(type + "f(" + type + "p,int i){return p+i;}", "32.0 32.1 " + mul + "106 15 65.0 11");
            Case.codeOf(type + "f(" + type + "p,int i){return i+p;}", "32.1 " + mul + "32.0 106 15 65.0 11");
            Case.codeOf(type + "f(" + type + "p,int i){return p-i;}", "32.0 32.1 " + mul + "107 15 65.0 11");
            Case.codeOf("int f(" + type + "p," + type + "q){return p-q;}", "32.0 32.1 107" + div + " 15 65.0 11");
            Case.codeOf(type + "f(" + type + "p,int i){return &p[i];}", "32.0 32.1 " + mul + "106 15 65.0 11");
            Case.codeOf("void f(" + type + "p,int i){p+=i;}", "32.0 32.1 " + mul + "106 34.0 26 11");
            Case.codeOf("void f(" + type + "p){p++;}", "32.0 32.0 65." + sizes[k] + " 106 33.0 26 11");
            Case.codeOf("void f(" + type + "p){--p;}", "32.0 65." + sizes[k] + " 107 34.0 26 11");
        }
        Case.codeOf("void f(long a){a--;++a;}", "32.0 32.0 66.1 125 33.0 26 32.0 66.1 124 34.0 26 11");
    }

    private static void constants() {
        Case.codeOf("int f(){return 2147483647;}", "65.2147483647 15 65.0 11");
        Case.codeOf("int f(){return -2147483647;}", "65.0 65.2147483647 107 15 65.0 11");
        Case.codeOf("long f(){return 999999999999999999L;}", "66.999999999999999999 15 66.0 11");
        Case.codeOf("int f(){return 0L;}", "66.0 167 15 65.0 11");
        Case.codeOf("long f(){return 0;}", "65.0 172 15 66.0 11");
        Case.codeOf("int*f(){return 0;}", "65.0 15 65.0 11");
        Case.codeOf("void f(int*p,int(*g)()){p=0;g=0;p==0;0!=g;}", "65.0 34.0 26 65.0 34.1 26 32.0 65.0 70 26 65.0 32.1 71 26 11");
        Case.codeOf("int f(){return '\\0'+'~'+sizeof(char)+sizeof(long)+sizeof(int*);}", "65.0 65.126 106 65.1 106 65.8 106 65.4 106 15 65.0 11");
        Case.codeOf("void f(int n){switch(n){case -2147483647:;}}", "32.0 33.1 2.64 2.64 32.1 65.-2147483647 70 13.0 12.1 11 11 11");
    }

    /** const 0 at the end, if it has a result; char by const 255, and. */
    private static void results() {
        Case.codeOf("void f(){}", "11");
        Case.codeOf("int f(){}", "65.0 11");
        Case.codeOf("char f(){}", "65.0 11");
        Case.codeOf("int*f(){}", "65.0 11");
        Case.codeOf("long f(){}", "66.0 11");
        Case.codeOf("char f(){return 1;}", "65.1 65.255 113 15 65.0 11");
        Case.codeOf("char f(){return 1L;}", "66.1 167 65.255 113 15 65.0 11");
        Case.codeOf("void f(){get();f();1;1L;put(1);}", "16.0 26 16.2 65.1 26 66.1 26 65.1 16.1 11");
    }

    private static void nestedLoops() {
        Case.codeOf("void f(){while(1){for(;;){do{break;}while(1);continue;}break;}}",
            "2.64 3.64 65.1 69 13.1 2.64 2.64 3.64 2.64 2.64 3.64 2.64 12.2 11 65.1 13.0 11 11 12.0 11 12.0 11 11 12.2 11 12.0 11 11 11");
        Case.codeOf("void f(){for(;;){if(1)continue;else break;}}", "2.64 3.64 2.64 65.1 4.64 12.1 5 12.3 11 11 12.0 11 11 11");
        Case.codeOf("void f(){for(;;)switch(1){case 1:continue;default:break;}}",
            "2.64 3.64 2.64 65.1 33.0 2.64 2.64 2.64 32.0 65.1 70 13.0 12.1 11 12.2 11 12.0 11 11 12.0 11 11 11");
    }

    private static void twelveFunctions() {
        StringBuilder text = new StringBuilder("long a[200];");
        for (char c = 'a'; c < 'm'; c++) {
            text.append("int f").append(c).append("(){return ").append(c - 'a').append(";}");
        }
        Codekiln x = Case.made(text.toString());
        Case.is("functions", x.moduleIs(0, 2), 12);
        Case.is("exports", x.moduleIs(0, 5), 12);
        Case.is("entries", x.moduleIs(0, 3), 13);
        for (int f = 0; f < 12; f++) {
            int run = x.begin(0, f, 0, 0, 0);
            x.step(run, 100);
            Case.is("value of " + f, x.value(run), f);
            x.dropRun(run);
        }
        Case.noIndex("a 13th", () -> x.begin(0, 12, 0, 0, 0));
        Case.is("written", x.write(0), x.moduleIs(0, 8));
        Case.is("same as read", x.same(0, x.read()), true);
    }

    /** The sizes of sections and codes are as few groups as needed: 127 bytes are one, 128 are two. */
    private static void sizes() {
        for (int more = 0; more < 40; more++) {
            Codekiln x = Case.made("int f(){" + "1;".repeat(30 + more) + "}");
            int code = 1 + 3 * (30 + more) + 3;
            int codeSize = code < 128 ? 1 : 2;
            int section = 1 + codeSize + code;
            int whole = 8 + 11 + 19 + 4 + 6 + 6 + 9 + 7 + 9 + 3 + 1 + (section < 128 ? 1 : 2) + section;
            Case.is("bytes of " + code, x.write(0), whole);
            Case.is("same as read", x.same(0, x.read()), true);
        }
    }

    /** TYPES: of functions by their numbers, of calls by FUNCTION POINTERS by tokens, whichever function has them. */
    private static void typesByTokens() {
        String ahead = "int b();int a();";
        String[] pointers = {"long(*p)();void(*q)();long(*r)(long);void(*s)(long);", ""};
        String[] locals = {"", "long(*p)();void(*q)();long(*r)(long);void(*s)(long);"};
        for (int k = 0; k < 2; k++) {
            Codekiln x = Case.made(pointers[k] + ahead + "int a(){" + locals[k] + "r(p());return 1;}int b(){" + locals[k] + "q();p();s(r(1));return 1;}");
            Case.is("types", x.moduleIs(0, 0), 6);
            Case.is("code of b", Case.code(x, 0, 2).replaceAll("(32|40|65)\\.\\d+ ?", ""), "17.4 17.3 26 172 17.2 17.5 15 11");
            Case.is("code of a", Case.code(x, 0, 3).replaceAll("(32|40|65)\\.\\d+ ?", ""), "17.3 17.2 26 15 11");
            x.write(0);
            int[] due = {6, 96, 0, 1, 127, 96, 1, 127, 0, 96, 1, 126, 1, 126, 96, 0, 1, 126, 96, 0, 0, 96, 1, 126, 0};
            for (int b = 0; b < due.length; b++) {
                Case.is("byte " + b + " of the types", x.byteAt(10 + b), due[b]);
            }
        }
    }
}
