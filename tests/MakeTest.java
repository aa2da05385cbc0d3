/** Promise 10: the modules that programs become. */
public final class MakeTest {
    public static void main(String[] args) {
        signs();
        conversions();
        arithmetic();
        pointers();
        choices();
        looseAssignments();
        globals();
        frames();
        calls();
        loops();
        switches();
        modules();
        wrongArguments();
        Case.end();
    }

    private static void signs() {
        Case.codeOf("int f(){return 7;}", "65.7 15 65.0 11");
        Case.codeOf("int f(int a){return -a;}", "65.0 32.0 107 15 65.0 11");
        Case.codeOf("long f(long a){return -a;}", "66.0 32.0 125 15 66.0 11");
        Case.codeOf("int f(long a){return ~a;}", "32.0 66.-1 133 167 15 65.0 11");
        Case.codeOf("int f(char a){return ~a;}", "32.0 65.-1 115 15 65.0 11");
        Case.codeOf("int f(long a){return !a;}", "32.0 80 15 65.0 11");
        Case.codeOf("int f(int*a){return !a;}", "32.0 69 15 65.0 11");
        Case.codeOf("int f(){return 'a'+sizeof(long);}", "65.97 65.8 106 15 65.0 11");
        Case.codeOf("void f(){}", "11");
        Case.codeOf("void f(){;{}1;return;}", "65.1 26 15 11");
    }

    private static void conversions() {
        Case.codeOf("char f(int a){return a;}", "32.0 65.255 113 15 65.0 11");
        Case.codeOf("char f(char a){return a;}", "32.0 65.255 113 15 65.0 11");
        Case.codeOf("char f(long a){return a;}", "32.0 167 65.255 113 15 65.0 11");
        Case.codeOf("long f(char a){return a;}", "32.0 172 15 66.0 11");
        Case.codeOf("long f(int*p){return (long)p;}", "32.0 172 15 66.0 11");
        Case.codeOf("int*f(long p){return (int*)p;}", "32.0 167 15 65.0 11");
        Case.codeOf("int f(int a){return (char)(long)a;}", "32.0 172 167 65.255 113 15 65.0 11");
        Case.codeOf("int f(char*p){return (int)(long*)p;}", "32.0 15 65.0 11");
        Case.codeOf("long f(){return 5L+6;}", "66.5 65.6 172 124 15 66.0 11");
        Case.codeOf("int*f(){return 0;}", "65.0 15 65.0 11");
    }

    private static void arithmetic() {
        String[] signs = {"+", "-", "*", "/", "%", "&", "|", "^", "<<", ">>"};
        int[] words = {106, 107, 108, 109, 111, 113, 114, 115, 116, 117};
        for (int k = 0; k < signs.length; k++) {
            Case.codeOf("int f(int a,char b){return a" + signs[k] + "b;}", "32.0 32.1 " + words[k] + " 15 65.0 11");
            Case.codeOf("long f(long a,long b){return a" + signs[k] + "b;}", "32.0 32.1 " + (words[k] + 18) + " 15 66.0 11");
        }
        String[] tests = {"==", "!=", "<", ">", "<=", ">="};
        int[] compares = {70, 71, 72, 74, 76, 78};
        for (int k = 0; k < tests.length; k++) {
            Case.codeOf("int f(int a,char b){return a" + tests[k] + "b;}", "32.0 32.1 " + compares[k] + " 15 65.0 11");
            Case.codeOf("int f(long a,long b){return a" + tests[k] + "b;}",
                "32.0 32.1 " + (compares[k] + 11) + " 15 65.0 11");
            int unsigned = k < 2 ? compares[k] : compares[k] + 1;
            Case.codeOf("int f(int*a,int*b){return a" + tests[k] + "b;}", "32.0 32.1 " + unsigned + " 15 65.0 11");
        }
        Case.codeOf("long f(int a,long b){return a+b;}", "32.0 172 32.1 124 15 66.0 11");
        Case.codeOf("int f(long a,int b){return a<b;}", "32.0 32.1 172 83 15 65.0 11");
        Case.codeOf("int f(int a,long b){return a<<b;}", "32.0 32.1 167 116 15 65.0 11");
        Case.codeOf("long f(long a,int b){return a>>b;}", "32.0 32.1 172 135 15 66.0 11");
    }

    private static void pointers() {
        Case.codeOf("int*f(int*p,int i){return p+i;}", "32.0 32.1 65.4 108 106 15 65.0 11");
        Case.codeOf("char*f(char*p,int i){return i+p;}", "32.1 32.0 106 15 65.0 11");
        Case.codeOf("long*f(long*p,int i){return i+p;}", "32.1 65.8 108 32.0 106 15 65.0 11");
        Case.codeOf("int**f(int**p,int i){return p-i;}", "32.0 32.1 65.4 108 107 15 65.0 11");
        Case.codeOf("int f(int*p,int*q){return p-q;}", "32.0 32.1 107 65.4 109 15 65.0 11");
        Case.codeOf("int f(char*p,char*q){return p-q;}", "32.0 32.1 107 15 65.0 11");
        Case.codeOf("int f(int*p){return 0==p;}", "65.0 32.0 70 15 65.0 11");
        Case.codeOf("int f(){return f!=f;}", "65.1 65.1 71 15 65.0 11");
        Case.codeOf("int f(int*p){return &*p==0;}", "32.0 65.0 70 15 65.0 11");
        Case.codeOf("char f(char*p){return p[1];}", "32.0 65.1 106 45.0 65.255 113 15 65.0 11");
        Case.codeOf("long f(long**p){return *p[2];}", "32.0 65.2 65.4 108 106 40.0 41.0 15 66.0 11");
        Case.codeOf("char*f(){return \"a\";}", "65.16 15 65.0 11");
        Case.codeOf("int a[3];int f(){return &a[2]-a;}", "65.16 65.2 65.4 108 106 65.16 107 65.4 109 15 65.0 11");
        Case.codeOf("int a;int*f(){return &a;}", "65.16 15 65.0 11");
        Case.codeOf("void f(int*p){*p=1;}", "32.0 65.1 34.1 54.0 32.1 26 11");
        Case.codeOf("void f(char*p){p[2]++;}", "32.0 65.2 106 34.1 32.1 45.0 34.2 65.1 106 58.0 32.2 26 11");
        Case.codeOf("void f(int**p){++*p;}", "32.0 34.1 32.1 40.0 65.4 106 34.2 54.0 32.2 26 11");
    }

    private static void choices() {
        Case.codeOf("int f(int a,long b){return a&&b;}", "32.0 4.127 32.1 66.0 82 65.0 71 5 65.0 11 15 65.0 11");
        Case.codeOf("int f(long a,int b){return a||b;}", "32.0 66.0 82 4.127 65.1 5 32.1 65.0 71 11 15 65.0 11");
        Case.codeOf("long f(int a,long b){return a?a:b;}", "32.0 4.126 32.0 172 5 32.1 11 15 66.0 11");
        Case.codeOf("int f(long a,char b){return a?b:0;}", "32.0 66.0 82 4.127 32.1 5 65.0 11 15 65.0 11");
        Case.codeOf("int*f(int*a){return a?0:a;}", "32.0 4.127 65.0 5 32.0 11 15 65.0 11");
    }

    private static void looseAssignments() {
        Case.codeOf("void f(int a,char b,long c){a=c;b=a;a+=c;b+=1;c<<=a;}",
            "32.2 167 34.0 26 32.0 65.255 113 34.1 26 32.0 172 32.2 124 167 34.0 26"
                + " 32.1 65.1 106 65.255 113 34.1 26 32.2 32.0 172 134 34.2 26 11");
        Case.codeOf("void f(char a,long b){a-=b;a<<=b;}",
            "32.0 172 32.1 125 167 65.255 113 34.0 26 32.0 32.1 167 116 65.255 113 34.0 26 11");
        Case.codeOf("void f(int*p,char*q,int i){p+=i;q-=1;++p;p--;q++;}",
            "32.0 32.2 65.4 108 106 34.0 26 32.1 65.1 107 34.1 26 32.0 65.4 106 34.0 26"
                + " 32.0 32.0 65.4 107 33.0 26 32.1 32.1 65.1 106 33.1 26 11");
        Case.codeOf("void f(long a,char b){a++;--b;b++;}",
            "32.0 32.0 66.1 124 33.0 26 32.1 65.1 107 65.255 113 34.1 26 32.1 32.1 65.1 106 65.255 113 33.1 26 11");
        Case.codeOf("void f(int a){int b=a;long c=b;char d;}", "32.0 33.1 32.1 172 33.2 11");
        Case.codeOf("int f(int a){int b;return b=a=1;}", "65.1 34.0 34.1 15 65.0 11");
    }

    private static void globals() {
        Codekiln x = Case.made("int a;char b;long c;int f(){a=1;b=a;c+=2;a++;--b;return c;}");
        Case.is("code", Case.code(x, 0, 2), "65.16 65.1 34.1 54.0 32.1 26"
            + " 65.20 65.16 40.0 65.255 113 34.1 58.0 32.1 26"
            + " 65.24 34.0 32.0 41.0 65.2 172 124 34.2 55.0 32.2 26"
            + " 65.16 34.0 32.0 40.0 34.1 65.1 106 54.0 32.1 26"
            + " 65.20 34.0 32.0 45.0 65.1 107 65.255 113 34.1 58.0 32.1 26"
            + " 65.24 41.0 167 15 65.0 11");
        Case.is("A, T, U", Case.locals(x, 0, 2), "[127, 127, 126]");
        Codekiln y = Case.made("long c;long f(int a){long b;b=c++;return b;}");
        Case.is("code", Case.code(y, 0, 2), "65.16 34.2 32.2 41.0 34.3 66.1 124 55.0 32.3 34.1 26 32.1 15 66.0 11");
        Case.is("a, b, A, U", Case.locals(y, 0, 2), "[127, 126, 127, 126]");
    }

    private static void frames() {
        Codekiln x = Case.made("int f(char a,int b){int c[3];int d=b;&a;c[1]=d;return c[b]+*c;}");
        Case.is("code", Case.code(x, 0, 2), "35.0 65.16 107 34.3 36.0 32.3 32.0 58.0 32.1 33.2 32.3 65.0 106 26"
            + " 32.3 65.4 106 65.1 65.4 108 106 32.2 34.4 54.0 32.4 26"
            + " 32.3 65.4 106 32.1 65.4 108 106 40.0 32.3 65.4 106 40.0 106 32.3 65.16 106 36.0 15"
            + " 65.0 32.3 65.16 106 36.0 11");
        Case.is("a, b, d, P, T", Case.locals(x, 0, 2), "[127, 127, 127, 127, 127]");
        Case.codeOf("void f(){int a=5;long b=a;&a;&b;}", "35.0 65.16 107 34.0 36.0 32.0 65.5 54.0 32.0 32.0 40.0 172 55.8"
            + " 32.0 65.0 106 26 32.0 65.8 106 26 32.0 65.16 106 36.0 11");
        Case.codeOf("void f(int a,long b){&b;&a;a=b;b--;}", "35.0 65.16 107 34.2 36.0 32.2 32.0 54.0 32.2 32.1 55.8"
            + " 32.2 65.8 106 26 32.2 65.0 106 26"
            + " 32.2 32.2 41.8 167 34.4 54.0 32.4 26"
            + " 32.2 34.3 32.3 41.8 34.5 66.1 125 55.8 32.5 26 32.2 65.16 106 36.0 11");
    }

    private static void calls() {
        Codekiln x = Case.made("int g(int(*h)(char,long),int x){put(get());return h(x,x)+g(h,1);}");
        Case.is("code", Case.code(x, 0, 2),
            "16.0 16.1 32.1 65.255 113 32.1 172 32.0 17.3 32.0 65.1 16.2 106 15 65.0 11");
        Case.is("types", x.moduleIs(0, 0), 4);
        Case.codeOf("int(*p)();int f(){return p();}", "65.16 40.0 17.0 15 65.0 11");
        // The types of calls by FUNCTION POINTERS stand in the order of the tokens of their NAMES.
        Case.codeOf("void f(long(*a)(int),int(*b)(long),int x){for(;x;b(1L))a(2);}",
            "2.64 3.64 32.2 69 13.1 2.64 65.2 32.0 17.4 26 11 66.1 32.1 17.3 26 12.0 11 11 11");
        Case.codeOf("void f(long(*a)(int),int(*b)(long)){a(b(2L));}", "66.2 32.1 17.4 32.0 17.3 26 11");
        Codekiln y = Case.made("void g(){}int f(){g();return 1;}");
        Case.is("void call", Case.code(y, 0, 3), "16.2 65.1 15 65.0 11");
    }

    private static void loops() {
        Case.codeOf("void f(long a){if(a)put(1);else put(2);}", "32.0 66.0 82 4.64 65.1 16.1 5 65.2 16.1 11 11");
        Case.codeOf("void f(int a){while(a){if(a)break;continue;}}",
            "2.64 3.64 32.0 69 13.1 2.64 32.0 4.64 12.3 11 12.0 11 12.0 11 11 11");
        Case.codeOf("void f(int a){for(a=1;a<5;a++)put(a);}",
            "65.1 34.0 26 2.64 3.64 32.0 65.5 72 69 13.1 2.64 32.0 16.1 11 32.0 32.0 65.1 106 33.0 26 12.0 11 11 11");
        Case.codeOf("void f(){for(;;);}", "2.64 3.64 2.64 11 12.0 11 11 11");
        Case.codeOf("void f(){for(put(1);;put(2));}", "65.1 16.1 2.64 3.64 2.64 11 65.2 16.1 12.0 11 11 11");
        Case.codeOf("void f(int a){do{if(a)continue;break;}while(a);}",
            "2.64 3.64 2.64 32.0 4.64 12.1 11 12.2 11 32.0 13.0 11 11 11");
        Case.codeOf("void f(long a){while(a);do;while(a);}", "2.64 3.64 32.0 66.0 82 69 13.1 2.64 11 12.0 11 11"
            + " 2.64 3.64 2.64 11 32.0 66.0 82 13.0 11 11 11");
    }

    private static void switches() {
        Case.codeOf("void f(int n){switch(n){case 3:put(1);break;default:put(2);case 5:put(3);}}",
            "32.0 33.1 2.64 2.64 2.64 2.64 32.1 65.3 107 14.0,1,2,1 11 65.1 16.1 12.2 11 65.2 16.1 11 65.3 16.1 11 11");
        Case.codeOf("void f(int n){switch(n){case 0:case 40:put(1);}}",
            "32.0 33.1 2.64 2.64 2.64 32.1 65.0 70 13.0 32.1 65.40 70 13.1 12.2 11 11 65.1 16.1 11 11");
        Case.codeOf("void f(int n){switch(n){case 7:;}}", "32.0 33.1 2.64 2.64 32.1 65.7 70 13.0 12.1 11 11 11");
        Case.codeOf("void f(int n){switch(n){default:put(1);}}", "32.0 33.1 2.64 2.64 12.0 11 65.1 16.1 11 11");
        Case.codeOf("void f(int n){switch(n){}}", "32.0 26 11");
        Case.codeOf("void f(int n){switch(n){case 1:case -1:;}}",
            "32.0 33.1 2.64 2.64 2.64 32.1 65.-1 107 14.1,2,0,2 11 11 11 11");
        Case.codeOf("void f(int n){switch(n){case -2147483647:case 2147483647:;}}",
            "32.0 33.1 2.64 2.64 2.64 32.1 65.-2147483647 70 13.0 32.1 65.2147483647 70 13.1 12.2 11 11 11 11");
        Codekiln x = Case.made("void f(int n){int a;switch(n){case 39:case 0:switch(a){case 1:;}}}");
        Case.is("places of the br_table", x.opAt(0, 2, 8, 1), 40);
        Case.is("number 0", x.targetAt(0, 2, 8, 0), 1);
        Case.is("number 1", x.targetAt(0, 2, 8, 1), 2);
        Case.is("number 39", x.targetAt(0, 2, 8, 39), 0);
        Case.is("others", x.targetAt(0, 2, 8, 40), 2);
        Case.is("n, a, S, S", Case.locals(x, 0, 2), "[127, 127, 127, 127]");
        // continue leaves the blocks of the switch.
        Case.codeOf("void f(int n){while(n)switch(n){case 1:continue;default:break;}}",
            "2.64 3.64 32.0 69 13.1 2.64 32.0 33.1 2.64 2.64 2.64 32.1 65.1 70 13.0 12.1 11 12.2 11 12.0 11 11 12.0 11 11 11");
    }

    private static void modules() {
        Codekiln x = Case.made("");
        int[] due = {2, 2, 0, 1, 1, 0, 0, 0, 0, 1, 4, 4, 0, 0};
        x.write(0);
        due[8] = 8 + 11 + 19 + 3 + 6 + 6 + 9 + 3 + 3 + 3 + 3;
        for (int what = 0; what < due.length; what++) {
            Case.is("moduleIs(0, " + what + ") of nothing", x.moduleIs(0, what), due[what]);
        }
        Codekiln y = Case.made("char a[3];long f(int b,long c){return 1;}void g(){}long h(char d,long e){return 2;}");
        int[] all = {4, 2, 3, 4, 1, 3, 1, 1};
        for (int what = 0; what < all.length; what++) {
            Case.is("moduleIs(0, " + what + ")", y.moduleIs(0, what), all[what]);
        }
        Case.is("type of get", y.functionAt(0, 0, 0), 0);
        Case.is("type of put", y.functionAt(0, 1, 0), 1);
        Case.is("type of f", y.functionAt(0, 2, 0), 2);
        Case.is("type of g", y.functionAt(0, 3, 0), 3);
        Case.is("type of h", y.functionAt(0, 4, 0), 2);
        Codekiln z = Case.made("int f(){return 1;}");
        Case.is("write", z.write(0), 8 + 11 + 19 + 4 + 6 + 6 + 9 + 7 + 9 + 11 + 3);
        int[] bytes = {0, 97, 115, 109, 1, 0, 0, 0, 1, 9, 2, 96, 0, 1, 127, 96, 1, 127, 0,
            2, 17, 2, 1, 'h', 3, 'g', 'e', 't', 0, 0, 1, 'h', 3, 'p', 'u', 't', 0, 1,
            3, 2, 1, 0, 4, 4, 1, 112, 0, 2, 5, 4, 1, 1, 4, 4, 6, 7, 1, 127, 1, 65, 128, 32, 11,
            7, 5, 1, 1, 'f', 0, 2, 9, 7, 1, 0, 65, 1, 11, 1, 2, 10, 9, 1, 7, 0, 65, 1, 15, 65, 0, 11, 11, 1, 0};
        for (int k = 0; k <= bytes.length; k++) {
            Case.is("byteAt(" + k + ")", z.byteAt(k), k < bytes.length ? bytes[k] : -1);
        }
        Codekiln w = Case.made("int a_z09(){return 1;}int _(){return 1;}int zzzzzzzzzz(){return 2;}int a[2]={1,2};char*s=\"hi\";");
        w.write(0);
        StringBuilder all2 = new StringBuilder();
        for (int k = 0; w.byteAt(k) >= 0; k++) {
            all2.append((char) w.byteAt(k));
        }
        Case.is("names", all2.indexOf("\u0005a_z09\0\u0002\u0001_\0\u0003\nzzzzzzzzzz\0\u0004") > 0, true);
        Case.is("data", all2.indexOf("\u000b\u0015\u0001\0A\u0010\u000b\u000f\u0001\0\0\0\u0002\0\0\0\u001c\0\0\0hi\0") > 0, true);
    }

    private static void wrongArguments() {
        Codekiln x = Case.made("int f(){return 1;}");
        Case.noIndex("make(1)", () -> x.make(1));
        Case.noIndex("make(-1)", () -> x.make(-1));
        for (int k = 1; k < 12; k++) {
            Case.is("make(0)", x.make(0), k);
        }
        Case.noState("make a 13th", () -> x.make(0));
        Case.noIndex("make(1) beside 12", () -> x.make(1));
        Case.is("clearModules()", x.clearModules(), 12);
        Case.is("make(0)", x.make(0), 0);
    }
}
