/** Promises 5 to 7: what programs tell of themselves, and the INPUT. */
public final class ProgramTest {
    public static void main(String[] args) {
        programs();
        functions();
        variables();
        globals();
        firstBytes();
        input();
        Case.end();
    }

    private static void programs() {
        Codekiln x = Case.loaded("");
        for (int what = 0; what < 4; what++) {
            Case.is("programIs(0, " + what + ") of nothing", x.programIs(0, what), 0);
        }
        Codekiln y = Case.loaded("char a;long b;char c[3]=\"ab\";char*d=\"xyz\";void f(){\"\";}int g(){return 1;}");
        Case.is("functions", y.programIs(0, 0), 2);
        Case.is("GLOBALS", y.programIs(0, 1), 4);
        Case.is("ROWS", y.programIs(0, 2), 3);
        // a 16, b 24 to 32, c 32 to 35, d 36 to 40, "xyz" 40 to 44, "" 44 to 45
        Case.is("bytes", y.programIs(0, 3), 29);
        Case.noIndex("programIs(1, 0)", () -> y.programIs(1, 0));
        Case.noIndex("programIs(-1, 4)", () -> y.programIs(-1, 4));
        Case.noArgument("programIs(0, 4)", () -> y.programIs(0, 4));
        Case.noArgument("programIs(0, -1)", () -> y.programIs(0, -1));
    }

    private static void functions() {
        Codekiln x = Case.loaded("long f(char a,int*b,long c,int d){char e;int g[3];long h;&h;&a;return 0;}"
            + "void p();char q(int a,long b,char c){return 1;}void p(){}int r(int a,int b,int c,int d){return 1;}"
            + "int*s(int(*a)()){return 0;}");
        int[][] due = {{4, 3, 3, 24, 8, 0}, {0, 0, 0, 0, 0, 1}, {3, 0, 0, 0, 1, 1}, {4, 0, 0, 0, 4, 0}, {1, 0, 0, 0, 4, 0}};
        for (int f = 0; f < due.length; f++) {
            for (int what = 0; what < 6; what++) {
                Case.is("functionIs(0, " + f + ", " + what + ")", x.functionIs(0, f, what), due[f][what]);
            }
        }
        Case.noIndex("functionIs(1, 0, 9)", () -> x.functionIs(1, 0, 9));
        Case.noIndex("functionIs(0, 5, 9)", () -> x.functionIs(0, 5, 9));
        Case.noIndex("functionIs(0, -1, 0)", () -> x.functionIs(0, -1, 0));
        Case.noArgument("functionIs(0, 0, 6)", () -> x.functionIs(0, 0, 6));
        Case.noArgument("functionIs(0, 0, -1)", () -> x.functionIs(0, 0, -1));
        // Functions are numbered by the tokens that tell them first, variables are those of the BODY.
        Codekiln y = Case.loaded("int b(int x,int y);int a(){return 1;}int b(int p,int q){int r=&q==0;return r;}");
        Case.is("parameters of b", y.functionIs(0, 0, 0), 2);
        Case.is("locals of b", y.functionIs(0, 0, 1), 1);
        Case.is("PLACED of b", y.functionIs(0, 0, 2), 1);
        Case.is("FRAME of b", y.functionIs(0, 0, 3), 8);
    }

    private static void variables() {
        Codekiln x = Case.loaded("void f(int k,char a,long b){char c[3];int d;char e;long g[2];{char*h;&(h);}"
            + "&((a));&d;int i;*&i;&b;}void g(int a){int b;a=b;}");
        // k LOOSE, a 0, b 8 to 16, c 16 to 19, d 20 to 24, e LOOSE, g 24 to 40, h 40 to 44, i 44 to 48
        int[][] due = {{4, 0, -1}, {1, 0, 0}, {8, 0, 8}, {1, 3, 16}, {4, 0, 20}, {1, 0, -1}, {8, 2, 24}, {4, 0, 40}, {4, 0, 44}};
        for (int v = 0; v < due.length; v++) {
            for (int what = 0; what < 3; what++) {
                Case.is("variableIs(0, 0, " + v + ", " + what + ")", x.variableIs(0, 0, v, what), due[v][what]);
            }
        }
        Case.is("FRAME", x.functionIs(0, 0, 3), 48);
        Case.is("a of g", x.variableIs(0, 1, 0, 2), -1);
        Case.noIndex("variableIs(1, 0, 0, 0)", () -> x.variableIs(1, 0, 0, 0));
        Case.noIndex("variableIs(0, 2, 0, 0)", () -> x.variableIs(0, 2, 0, 0));
        Case.noIndex("variableIs(0, 0, 9, 7)", () -> x.variableIs(0, 0, 9, 7));
        Case.noIndex("variableIs(0, 0, -1, 0)", () -> x.variableIs(0, 0, -1, 0));
        Case.noIndex("variableIs(0, 1, 2, 0)", () -> x.variableIs(0, 1, 2, 0));
        Case.noArgument("variableIs(0, 0, 0, 3)", () -> x.variableIs(0, 0, 0, 3));
        Case.noArgument("variableIs(0, 0, 0, -1)", () -> x.variableIs(0, 0, 0, -1));
        // Not of the NAME: & of what an array or a pointer gives.
        Codekiln y = Case.loaded("void f(int*p){&p[1];&*p;int a=sizeof(int);}");
        Case.is("p is LOOSE", y.variableIs(0, 0, 0, 2), -1);
    }

    private static void globals() {
        Codekiln x = Case.loaded("char a;int b;char c[5];long d[2];char e;int(*f)();int*g[3];");
        int[][] due = {{1, 0, 16}, {4, 0, 20}, {1, 5, 24}, {8, 2, 32}, {1, 0, 48}, {4, 0, 52}, {4, 3, 56}};
        for (int g = 0; g < due.length; g++) {
            for (int what = 0; what < 3; what++) {
                Case.is("globalIs(0, " + g + ", " + what + ")", x.globalIs(0, g, what), due[g][what]);
            }
        }
        Case.is("bytes", x.programIs(0, 3), 52);
        Case.noIndex("globalIs(1, 0, 5)", () -> x.globalIs(1, 0, 5));
        Case.noIndex("globalIs(0, 7, 5)", () -> x.globalIs(0, 7, 5));
        Case.noIndex("globalIs(0, -1, 0)", () -> x.globalIs(0, -1, 0));
        Case.noArgument("globalIs(0, 0, 3)", () -> x.globalIs(0, 0, 3));
        Case.noArgument("globalIs(0, 0, -1)", () -> x.globalIs(0, 0, -1));
    }

    private static void bytesAt(Codekiln x, int place, int... due) {
        for (int k = 0; k < due.length; k++) {
            Case.is("firstByte(0, " + (place + k) + ")", x.firstByte(0, place + k), due[k]);
        }
    }

    private static void firstBytes() {
        Codekiln x = Case.loaded("int a=-2;char b=300;long c=-3;int d[3]={1,258L};char e[4]=\"ab\";char*f=\"xy\";"
            + "int g(){\"z\";return 1;}int h(){return 2;}int(*i)()=h;int(*j)()=0;int k='a';long l=-123456789012L;");
        bytesAt(x, 16, 254, 255, 255, 255);
        bytesAt(x, 20, 44, 0, 0, 0);
        bytesAt(x, 24, 253, 255, 255, 255, 255, 255, 255, 255);
        bytesAt(x, 32, 1, 0, 0, 0, 2, 1, 0, 0, 0, 0, 0, 0);
        bytesAt(x, 44, 97, 98, 0, 0);
        // f 48, i 52, j 56, k 60, l 64 to 72; "xy" 72 to 75, "z" 75 to 77
        bytesAt(x, 48, 72, 0, 0, 0);
        bytesAt(x, 52, 2, 0, 0, 0, 0, 0, 0, 0);
        bytesAt(x, 60, 97, 0, 0, 0);
        bytesAt(x, 64, 236, 229, 102, 65, 227, 255, 255, 255);
        bytesAt(x, 72, 120, 121, 0, 122, 0, 0);
        Case.is("bytes", x.programIs(0, 3), 61);
        Case.is("ROWS", x.programIs(0, 2), 3);
        Case.is("firstByte(0, 0)", x.firstByte(0, 0), 0);
        Case.is("firstByte(0, 4095)", x.firstByte(0, 4095), 0);
        Case.noIndex("firstByte(1, -1)", () -> x.firstByte(1, -1));
        Case.noArgument("firstByte(0, 4096)", () -> x.firstByte(0, 4096));
        Case.noArgument("firstByte(0, -1)", () -> x.firstByte(0, -1));
    }

    private static void input() {
        Codekiln x = new Codekiln();
        for (int k = 1; k <= 40; k++) {
            Case.is("feed", x.feed(-k), k);
        }
        Case.noState("feed a 41st", () -> x.feed(1));
        Case.is("clearInput()", x.clearInput(), 40);
        Case.is("clearInput()", x.clearInput(), 0);
        Case.is("feed", x.feed(5), 1);
    }
}
