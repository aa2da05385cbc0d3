/** The edges of faults of the second kind (section 2): names, numbers of things, and how DEEP exps are. */
public final class BindingEdgeTest {
    public static void main(String[] args) {
        namesBindFromTheirTokenOn();
        namesBindUpToTheirBlock();
        secondOnes();
        toldAgain();
        bodies();
        numbersOfArrays();
        bytesOfGlobals();
        leaving();
        labels();
        thingsAndVariables();
        functionPointers();
        rows();
        deepExps();
        deepSides();
        theFirstByPlace();
        Case.end();
    }

    private static String letters(String one, int many) {
        StringBuilder all = new StringBuilder();
        for (int k = 0; k < many; k++) {
            all.append(one.replace("#", String.valueOf((char) ('a' + k))));
        }
        return all.toString();
    }

    private static void namesBindFromTheirTokenOn() {
        Case.good("int f(){return f();}");
        Case.good("int f(){int a=a;return a;}");
        Case.good("int f(int b);int g(){return f(1);}int f(int b){return 1;}");
        Case.faultAt(2, "int g(){return @f(1);}int f(int b){return 1;}");
        Case.faultAt(2, "int g(){return @b;}int b;");
        Case.good("int b;int g(){return b;}");
        Case.faultAt(2, "int f(){int a=@b;int b;}");
        Case.faultAt(2, "int f(){@b=1;int b;}");
        Case.faultAt(2, "int(*a)()=@b;int b(){return 1;}");
        Case.good("int b();int(*a)()=b;int b(){return 1;}");
        Case.faultAt(3, "int a=@a;");
        Case.faultAt(2, "int a=@b;");
        Case.faultAt(2, "int a[2]=@b;");
        Case.good("int f(){return get();}void g(){put(1);}");
        Case.faultAt(2, "int f(int a){return f(1,@b);}");
        Case.faultAt(2, "int f(){return @a();}");
        Case.good("int f(){return sizeof(int);}");
        // A parameter binds in the BODY alone.
        Case.faultAt(2, "int f(int a);int g(){return @a;}int f(int b){return b;}");
        Case.faultAt(2, "int f(int a);int f(int b){return @a;}");
    }

    private static void namesBindUpToTheirBlock() {
        Case.good("int f(){{int a;a;}int a;return a;}");
        Case.faultAt(2, "int f(){{int a;a;}@a;}");
        Case.faultAt(2, "int f(){if(1){int a;}else @a;}");
        Case.faultAt(2, "int f(){while(1){int a;}@a;}");
        Case.faultAt(2, "int f(){do{int a;}while(@a);}");
        Case.faultAt(2, "int f(){for(;;@a){int a;}}");
        Case.good("int f(){switch(1){case 1:int a;case 2:a;default:{a;}}}");
        Case.faultAt(2, "int f(){switch(1){case 1:{int a;}case 2:@a;}}");
        Case.faultAt(2, "int f(){switch(1){case 1:int a;}@a;}");
        Case.faultAt(2, "int f(){switch(@a){case 1:int a;}}");
        Case.faultAt(2, "int f(int a){}int g(){@a;}");
        Case.faultAt(2, "int f(){int a;}int g(){@a;}");
        // That which binds it nearest.
        Case.value("int a=1;int f(int b){{int a=2;{int a=3;b=b*10+a;}b=b*10+a;}b=b*10+a;return b;}", 0, 0, 321);
        Case.value("int f(int a){{int a=5;}return a;}", 7, 0, 7);
        Case.value("int f(){int f=4;return f;}", 4);
        Case.value("int gets=3;int f(){return gets;}", 3);
    }

    private static void secondOnes() {
        Case.faultAt(2, "int a;char @a;");
        Case.faultAt(2, "int a;int @a[2];");
        Case.faultAt(2, "int a;int(*@a)();");
        Case.faultAt(2, "int a;int @a();");
        Case.faultAt(2, "int a(){return 1;}int @a[2];");
        Case.faultAt(2, "int @get;");
        Case.faultAt(2, "int @put;");
        Case.faultAt(2, "int @get();");
        Case.faultAt(2, "int @get(){return 1;}");
        Case.faultAt(2, "void @put(int a){}");
        Case.faultAt(2, "int(*@get)();");
        Case.good("int gett;int pu;int f(int get,int put){return get+put;}");
        Case.good("int f(){int get=1;int put;return get;}");
        Case.good("int a;int f(int a){{int a;}return a;}int b(int f){return f;}");
        Case.faultAt(2, "int f(int a,char @a){}");
        Case.faultAt(2, "int f(int a,int(*@a)()){}");
        Case.faultAt(2, "int f(int a,char @a);int f(int a,char b){}");
        Case.faultAt(2, "int f(int a){int @a;}");
        Case.faultAt(2, "int f(int a){char @a[3];}");
        Case.good("int f(int a){{int a;{int a;}}{int a;}}");
        Case.faultAt(2, "int f(){int a;{}int @a;}");
        Case.faultAt(2, "int f(){{int a;int @a;}}");
        Case.good("int f(){int a;switch(1){case 1:int a;}}");
        Case.faultAt(2, "int f(){switch(1){case 1:int a;case 2:int @a;}}");
        Case.good("int f(){switch(1){case 1:int a;case 2:{int a;}}}");
        Case.good("int f(int f){return f;}");
        // Behind a block, or a switch, the block round it is the one at hand again.
        Case.faultAt(2, "int f(){int a;{int b;}int @a;}");
        Case.faultAt(2, "int f(){int a;switch(1){case 1:int b;}int @a;}");
        Case.faultAt(2, "int f(int a){switch(1){default:int a;}int @a;}");
        Case.faultAt(2, "int f(){{int a;switch(1){case 1:int a;{int a;}int @a;}}}");
        Case.faultAt(2, "int f(){int a;if(1){int a;}else{int a;}while(0){int a;}do{int a;}while(0);for(;;){int a;}int @a;}");
        Case.good("int f(){switch(1){case 1:int a;}switch(2){case 1:int a;}int a;}");
    }

    /** A function may be told again, if its result and the types of its parameters are the same. */
    private static void toldAgain() {
        Case.good("int f();int f();int f(){return 1;}int f();int f();");
        Case.good("int f(int a,char*b,long(*c)(char));int f(int d,char*e,long(*g)(char)){return 1;}");
        String body = "int f(int a,char*b,long(*c)(char)){return 1;}";
        Case.faultAt(2, body + "long @f(int a,char*b,long(*c)(char));");
        Case.faultAt(2, body + "int*@f(int a,char*b,long(*c)(char));");
        Case.faultAt(2, body + "void @f(int a,char*b,long(*c)(char));");
        Case.faultAt(2, body + "int @f(int a,char*b);");
        Case.faultAt(2, body + "int @f(int a,char*b,long(*c)(char),int d);");
        Case.faultAt(2, body + "int @f(char a,char*b,long(*c)(char));");
        Case.faultAt(2, body + "int @f(int a,char**b,long(*c)(char));");
        Case.faultAt(2, body + "int @f(int a,char*b,int(*c)(char));");
        Case.faultAt(2, body + "int @f(int a,char*b,long(*c)(int));");
        Case.faultAt(2, body + "int @f(int a,char*b,long(*c)());");
        Case.faultAt(2, body + "int @f(int a,char*b,long c);");
        Case.faultAt(2, body + "int @f(int a,char*b,long(*c)(char)){return 1;}");
        Case.faultAt(2, "int f();int f(){return 1;}int @f(){return 2;}");
        Case.faultAt(2, "int f();int @f;int f(){return 1;}");
    }

    /** The first NAME of a function that never gets a BODY. */
    private static void bodies() {
        Case.faultAt(2, "int @f();");
        Case.faultAt(2, "int @f();int f();");
        Case.faultAt(2, "int @f();int g(){return f();}");
        Case.faultAt(2, "int @f();int f(int a){return a;}");
        Case.faultAt(2, "int @f();long f(){return 1;}");
        Case.good("int f();int g(){return f();}int f(){return 1;}");
        Case.faultAt(2, "int a;int @f();int g(){return b;}");
        Case.faultAt(2, "int g(){return @b;}int f();");
    }

    /** A NUMBER of an array is 1 to 200, and not LONG. */
    private static void numbersOfArrays() {
        for (String type : new String[] {"int ", "char ", "long ", "int*", "char**"}) {
            Case.good(type + "a[1];");
            Case.good(type + "a[200];");
            Case.faultAt(2, type + "a[@0];");
            Case.faultAt(2, type + "a[@201];");
            Case.faultAt(2, type + "a[@2147483647];");
            Case.faultAt(2, type + "a[@1L];");
            Case.faultAt(2, type + "a[@0L];");
            Case.faultAt(2, type + "a[@999999999999999999L];");
            Case.good("void f(){" + type + "a[1];" + type + "b[200];" + type + "c[200];}");
            Case.faultAt(2, "void f(){" + type + "a[@0];}");
            Case.faultAt(2, "void f(){" + type + "a[@201];}");
            Case.faultAt(2, "void f(){" + type + "a[@200L];}");
        }
        Case.good("int a[0000000200];");
    }

    /** GLOBALS take at most 1600 bytes from 16 on, with what is left out between. */
    private static void bytesOfGlobals() {
        Case.good("long a[200];");
        Case.faultAt(2, "long a[200];char @b;");
        Case.good("long a[199];long b;");
        Case.good("long a[199];char b[8];");
        Case.faultAt(2, "long a[199];char b[8];char @c;");
        Case.faultAt(2, "long a[199];char @b[9];");
        Case.good("long a[199];char b[7];char c;");
        Case.good("char a;long b[199];");
        Case.faultAt(2, "char a;long b[199];char @c;");
        Case.faultAt(2, "char a;long @b[200];");
        Case.good("long a[199];char b[4];int c;");
        Case.faultAt(2, "long a[199];char b[5];int @c;");
        Case.faultAt(2, "long a[199];char b[5];int*@c;");
        Case.faultAt(2, "long a[199];char b[5];int(*@c)();");
        Case.faultAt(2, "long a[199];char b;long @c;");
        Case.good("long a[198];char b;long c;");
        Case.good("int a[200];int b[200];");
        Case.faultAt(2, "int a[200];int b[200];char @c;");
        Case.good("int*a[200];int*b[199];int(*c)();");
        Case.good("char a[200];char b[200];char c[200];char d[200];char e[200];char f[200];char g[200];char h[200];");
        Case.faultAt(2, "char a[200];char b[200];char c[200];char d[200];char e[200];char f[200];char g[200];char h[200];char @i;");
        // ROWS do not count; an array with a wrong NUMBER counts as of 1 cell, but that NUMBER comes behind.
        Case.good("long a[200];void f(){\"abc\";\"def\";}");
        Case.good("long a[199];char*b=\"0123456789012345678901234567890123456789\";int c;");
        Case.faultAt(2, "long a[200];long @b[201];");
        Case.faultAt(2, "long a[199];long b[@201];long c;");
        Case.faultAt(2, "long a[@0];long b[200];");
    }

    /** break outside of loops and switches, continue outside of loops. */
    private static void leaving() {
        for (String loop : new String[] {"while(1)", "for(;;)", "do "}) {
            String behind = loop.equals("do ") ? "while(1);" : "";
            Case.good("void f(){" + loop + "break;" + behind + "}");
            Case.good("void f(){" + loop + "continue;" + behind + "}");
            Case.good("void f(){" + loop + "{if(1){break;}else continue;}" + behind + "}");
            Case.faultAt(2, "void f(){" + loop + ";" + behind + "@break;}");
            Case.faultAt(2, "void f(){" + loop + ";" + behind + "@continue;}");
            Case.good("void f(){" + loop + "switch(1){case 1:continue;case 2:break;}" + behind + "}");
            Case.good("void f(){switch(1){case 1:" + loop + "continue;" + behind + "break;}}");
            Case.faultAt(2, "void f(){switch(1){case 1:" + loop + "continue;" + behind + "@continue;}}");
        }
        Case.faultAt(2, "void f(){@break;}");
        Case.faultAt(2, "void f(){@continue;}");
        Case.faultAt(2, "void f(){if(1)@break;}");
        Case.good("void f(){switch(1){case 1:break;}}");
        Case.good("void f(){switch(1){case 1:{if(1)break;}}}");
        Case.faultAt(2, "void f(){switch(1){case 1:@continue;}}");
        Case.faultAt(2, "void f(){switch(1){case 1:break;}@break;}");
        Case.faultAt(2, "void f(){while(1)break;}void g(){@break;}");
    }

    /** A number, also a LONG one, that the switch has already; a second default; a 13th label. */
    private static void labels() {
        String head = "void f(){switch(1){";
        Case.good(head + "case 1:case 2:case -1:default:;}}");
        Case.faultAt(2, head + "case 1:@case 1:;}}");
        Case.faultAt(2, head + "case 1:case 2:;@case 1:;}}");
        Case.faultAt(2, head + "case 1:@case 1L:;}}");
        Case.faultAt(2, head + "case 1L:@case 1:;}}");
        Case.faultAt(3, head + "@case 1L:case 2L:;}}");
        Case.faultAt(2, head + "case 1L:@case 1L:;}}");
        Case.faultAt(2, head + "case 999999999999999999L:@case 999999999999999999L:;}}");
        Case.faultAt(3, head + "@case 999999999999999999L:case 999999999999999998L:;}}");
        // 4294967297 is not 1.
        Case.faultAt(3, head + "case 1:@case 4294967297L:;}}");
        Case.faultAt(2, head + "case 65:@case 'A':;}}");
        Case.faultAt(2, head + "case '\\n':@case 10:;}}");
        Case.faultAt(2, head + "case 0:@case -0:;}}");
        Case.faultAt(2, head + "case '\\0':@case -0L:;}}");
        Case.faultAt(2, head + "case -1:@case -0001:;}}");
        Case.good(head + "case 2147483647:case -2147483647:case 0:;}}");
        Case.good(head + "default:;}}");
        Case.faultAt(2, head + "default:@default:;}}");
        Case.faultAt(2, head + "default:case 1:;@default:;}}");
        Case.good(head + "case 1:default:switch(2){case 1:default:;}}}");
        Case.faultAt(2, head + "case 1:switch(2){case 1:default:;}@case 1:;}}");
        Case.good(head + letters("case '#':", 12) + "}}");
        Case.faultAt(2, head + letters("case '#':", 12) + "@case 1:}}");
        Case.faultAt(2, head + letters("case '#':", 12) + "@default:}}");
        Case.good(head + "default:" + letters("case '#':", 11) + "}}");
        Case.faultAt(2, head + "default:" + letters("case '#':", 11) + "@case 1:}}");
        Case.good(head + letters("case '#':", 11) + "default:switch(2){" + letters("case '#':", 12) + "}}}");
        Case.faultAt(2, head + letters("case '#':", 12) + "switch(2){case 1:;}@case 2:}}");
    }

    /** 12 functions, 12 GLOBALS, 5 parameters, 20 locals. */
    private static void thingsAndVariables() {
        Case.good(letters("int #(){}", 12));
        Case.faultAt(2, letters("int #(){}", 12) + "int @m(){}");
        Case.faultAt(2, letters("int #(){}", 12) + "int @m();");
        Case.good(letters("int #(){}", 12) + letters("int #();", 12));
        Case.good(letters("int #();", 12) + letters("int #(){}", 12));
        Case.good(letters("int #(){get();put(1);}", 12));
        Case.good(letters("int #;", 12) + letters("int #_(){}", 12));
        Case.faultAt(2, letters("int #;", 12) + "int @m;");
        Case.faultAt(2, letters("int #;", 12) + "int @m[2];");
        Case.faultAt(2, letters("int #;", 12) + "int(*@m)();");
        Case.good(letters("int(*#)();", 12));
        Case.faultAt(2, letters("int(*#)();", 12) + "char @m;");
        Case.good("int f(int a,char b,long c,int*d,int(*e)()){}");
        Case.faultAt(2, "int f(int a,char b,long c,int*d,int(*e)(),int @g){}");
        Case.faultAt(2, "int f(int a,char b,long c,int*d,int e,int(*@g)()){}");
        Case.faultAt(2, "int f(int a,int b,int c,int d,int e,int @g);int f(int a,int b,int c,int d,int e,int g){}");
        Case.good("int f(int _,int b_,int c_,int d_,int e_){" + letters("int #;", 20) + "}");
        Case.faultAt(2, "int f(){" + letters("int #;", 20) + "int @u;}");
        Case.faultAt(2, "int f(){" + letters("int #;", 20) + "int @u[2];}");
        Case.faultAt(2, "int f(){" + letters("int #;", 20) + "int(*@u)();}");
        Case.good("int f(){" + letters("int #[2];", 20) + "}int g(){" + letters("int #;", 20) + "}");
        Case.good("int f(){" + "{int a;}".repeat(20) + "}");
        Case.faultAt(2, "int f(){" + "{int a;}".repeat(20) + "{int @a;}}");
        Case.faultAt(2, "int f(){" + "{int a;}".repeat(20) + "switch(1){default:char @a;}}");
    }

    /** The first word of a 6th type in the brackets of a FUNCTION POINTER. */
    private static void functionPointers() {
        String five = "int,char,long,int*,char**";
        Case.good("int(*f)(" + five + ");");
        Case.faultAt(2, "int(*f)(" + five + ",@int);");
        Case.faultAt(2, "int(*f)(" + five + ",@long*,int);");
        Case.good("int f(int(*g)(" + five + ")){}");
        Case.faultAt(2, "int f(int(*g)(" + five + ",@char*)){}");
        Case.good("void f(){void(*g)(" + five + ");}");
        Case.faultAt(2, "void f(){void(*g)(" + five + ",@char);}");
    }

    private static void rows() {
        Case.good("void f(){" + "\"\";".repeat(8) + "}");
        Case.faultAt(2, "void f(){" + "\"\";".repeat(8) + "@\"\";}");
        Case.good("char*a=\"a\";char b[2]=\"b\";void f(){" + "\"c\";".repeat(6) + "}");
        Case.faultAt(2, "char*a=\"a\";char b[2]=\"b\";void f(){" + "\"c\";".repeat(6) + "@\"d\";}");
        Case.faultAt(2, "void f(){" + "\"c\";".repeat(8) + "}char a[2]=@\"d\";");
        Case.faultAt(2, "void f(){" + "\"c\";".repeat(8) + "}int a=@\"d\";");
    }

    /** An exp that is so many DEEP, in brackets. */
    private static String deep(int many) {
        return "(" + "a+".repeat(many - 1) + "a)";
    }

    /** The marked exp has # in place of an exp: 23 DEEP it may be, 24 DEEP it may not. */
    private static void deepBy(String marked) {
        String head = "int f(int a,int*p){";
        String text = head + marked.replace("@", "").replace("#", deep(23)) + ";}";
        Codekiln x = new Codekiln();
        Case.put(x, text);
        Case.is("a fault of the kind 2 of " + text, x.faultKind() == 2, false);
        Case.faultAt(2, head + marked.replace("#", deep(24)) + ";}");
    }

    private static void deepExps() {
        String head = "int f(int a,int*p){";
        Case.good(head + deep(24) + ";}");
        Case.faultAt(2, head + "(" + "a+".repeat(23) + "a@+a);}");
        Case.faultAt(2, head + "(" + "a+".repeat(23) + "a@+a+a+a);}");
        Case.good(head + "a+1+'a'+2L+sizeof(int)+f(a,p)+*p+p[1]+" + "a+".repeat(15) + "a;}");
        Case.good("int g(){return " + "g()+".repeat(23) + "g();}");
        Case.faultAt(2, "int g(){return " + "g()+".repeat(23) + "g()@+g();}");
        Case.good("char*s=\"a\";int g(){return " + "1+".repeat(22) + "\"a\"[0];}");
        Case.faultAt(2, "int g(){return " + "1+".repeat(23) + "1@+1;}");
        // Brackets add nothing.
        Case.good(head + "((((((((" + deep(24) + "))))))));}");
        Case.good(head + "(((((((a)+a)+a)+a)+a)+a)+a);}");
        // The first by place: outer signs ahead of inner ones that are deep, too.
        Case.faultAt(2, head + "@-(-" + deep(24) + ");}");
        Case.faultAt(2, head + "@f(f(" + deep(24) + ",p),p);}");
        Case.faultAt(2, head + "(" + "a+".repeat(23) + "a@+a)*2;}");
        Case.faultAt(2, head + "2@*(" + "a+".repeat(24) + "a);}");
        Case.faultAt(2, head + "a@=1?2:" + deep(24) + ";}");
    }

    /** Each kind of exp, by each of its sides. */
    private static void deepSides() {
        for (String sign : new String[] {"+", "-", "*", "/", "%", "&", "|", "^", "<<", ">>", "<", "<=", ">", ">=", "==", "!=", "&&", "||"}) {
            deepBy("#@" + sign + "a");
            deepBy("a@" + sign + "#");
        }
        for (String sign : new String[] {"-", "!", "~", "*", "&", "++", "--"}) {
            deepBy("@" + sign + "#");
        }
        for (String type : new String[] {"int", "char", "long", "int*"}) {
            deepBy("@(" + type + ")#");
        }
        for (String sign : new String[] {"=", "+=", "-=", "*=", "/=", "%=", "&=", "|=", "^=", "<<=", ">>="}) {
            deepBy("a@" + sign + "#");
            deepBy("#@" + sign + "a");
        }
        deepBy("#@++");
        deepBy("#@--");
        deepBy("p@[#]");
        deepBy("#@[a]");
        deepBy("#@?a:a");
        deepBy("a@?#:a");
        deepBy("a@?a:#");
        deepBy("@f(#,p)");
        deepBy("@f(a,#)");
        deepBy("@put(#)");
        deepBy("if(1)@-#");
        deepBy("return @-#");
        deepBy("int b=@-#");
        deepBy("for(;;@-#)");
    }

    private static void theFirstByPlace() {
        Case.faultAt(2, "int @f();int a;int a;");
        Case.faultAt(2, "int a;int @a;int f();");
        Case.faultAt(2, "int a[@0];int f(){break;}");
        Case.faultAt(2, "int f(){@break;x;}int a[0];");
        Case.faultAt(2, "int f(){@x;break;}");
        // What cannot stand comes ahead of all, wherever it stands; types come last.
        Case.faultAt(1, "int a;int a;int f(){x;break;return 1L[2];}@+");
        Case.faultAt(2, "int f(){return 1L[2];}int g(){return @x;}");
        Case.faultAt(3, "int f(){return 1L@[2];}int g(){return -put(1);}");
    }
}
