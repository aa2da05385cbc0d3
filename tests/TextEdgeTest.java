/** The edges of texts (promises 2 to 4, sections 2 and 3): the last that may stand, and the first that may not. */
public final class TextEdgeTest {
    private static final String[] WORDS = {"int", "char", "long", "void", "if", "else", "while", "do", "for", "switch",
        "case", "default", "break", "continue", "return", "sizeof"};

    public static void main(String[] args) {
        lengths();
        names();
        numbers();
        characters();
        rows();
        bytesBetween();
        longestTokens();
        noBacktracking();
        openersInExps();
        openersInStatements();
        whatOpensNothing();
        closedAgain();
        Case.end();
    }

    /** The TEXT has at most 1200 bytes. */
    private static void lengths() {
        Codekiln x = new Codekiln();
        Case.put(x, "int a;" + " ".repeat(1193));
        Case.is("length", x.type(0, 0, 0, 0), 1199);
        Case.noState("two bytes more", () -> x.type(32, 0, 0, 32));
        Case.noState("two bytes more", () -> x.type(0, 0x2020L, 0, 0));
        Case.is("length", x.type(0, 0, 0, 0), 1199);
        Case.is("one byte more", x.type(0, 0, 0x3B00L, 0), 1200);
        Case.is("fault at the last byte", x.faultPlace(), 1199);
        Case.noState("one byte more", () -> x.type(0, 0, 0, 1));
        Case.is("nothing more", x.type(0, 0, 0, 0), 1200);
        Case.is("fault as it was", x.faultPlace(), 1199);
        int[] lengths = {52, 59, 71, 95, 110, 103, 79, 126};
        for (int k = 0; k < 8; k++) {
            int which = k;
            Codekiln y = new Codekiln();
            Case.put(y, " ".repeat(1201 - lengths[k]));
            Case.noState("piece(" + k + ") up to 1201", () -> y.piece(which));
            Case.is("length", y.clearText(), 1201 - lengths[k]);
            Case.put(y, " ".repeat(1200 - lengths[k]));
            Case.is("piece(" + k + ") up to 1200", y.piece(k), 1200);
            Case.is("fault", y.faultKind(), 0);
            Case.is("load", y.load(), 0);
        }
        Codekiln z = new Codekiln();
        Case.put(z, "int a" + " ".repeat(1195));
        Case.is("end of the longest text", z.faultPlace(), 1200);
    }

    /** At most 10 signs; a letter or _ first; the words are none. */
    private static void names() {
        Case.good("int a;int _;int z;int a0;int __________;int zzzzzzzzz9;");
        Case.faultAt(1, "int @___________;");
        Case.faultAt(1, "int @zzzzzzzzzz9;");
        Case.faultAt(1, "int @0a;");
        Case.faultAt(1, "int @A;");
        Case.faultAt(1, "int a@Z;");
        Case.good("int abcdefghij(int bcdefghijk){int cdefghijkl=bcdefghijk;return abcdefghij(cdefghijkl);}");
        Case.faultAt(1, "int @abcdefghijk(){return 1;}");
        Case.faultAt(1, "int a(int @abcdefghijk){return 1;}");
        Case.faultAt(1, "int a(){int @abcdefghijk;}");
        Case.faultAt(1, "int a(){return @abcdefghijk;}");
        Case.faultAt(1, "int a(){return @abcdefghijk();}");
        Case.faultAt(1, "int(*a)()=@abcdefghijk;");
        Case.faultAt(1, "int(*@abcdefghijk)();");
        for (String word : WORDS) {
            Case.faultAt(1, "int @" + word + ";");
            Case.good("int " + word + "_;int _" + word + ";int " + word + "0;");
        }
        Case.good("int in;int inte;int els;int whil;int sizeo;");
    }

    /** 1 to 10 digits, at most 2147483647; or 1 to 18 digits and L right behind them. */
    private static void numbers() {
        Case.good("int a=0;int b=9;int c=2147483647;int d=-2147483647;int e=0000000000;int f=2147483646;");
        Case.faultAt(1, "int a=@2147483648;");
        Case.faultAt(1, "int a=-@2147483648;");
        Case.faultAt(1, "int a=@9999999999;");
        Case.faultAt(1, "int a=@00000000000;");
        Case.faultAt(1, "int a[@02147483647];");
        Case.good("long a=0L;long b=999999999999999999L;long c=-999999999999999999L;long d=000000000000000000L;");
        Case.faultAt(1, "long a=@0000000000000000000L;");
        Case.faultAt(1, "long a=@1000000000000000000L;");
        Case.faultAt(1, "long a=@999999999999999999;");
        Case.faultAt(1, "long a=1 @L;");
        Case.faultAt(1, "long a=1L@L;");
        Case.faultAt(1, "long a=1L@2;");
        Case.faultAt(1, "long a=1@l;");
        Case.value("long f(){return 999999999999999999L;}", 999999999999999999L);
        Case.value("int f(){return 2147483647;}", 2147483647);
        Case.value("int f(){return 0000000010;}", 10);
    }

    /** One sign of the codes 32 to 126 but ' and \, or \n, or \0. */
    private static void characters() {
        for (int c = 1; c < 256; c++) {
            boolean may = c >= 32 && c <= 126 && c != '\'' && c != '\\';
            String token = "'" + (char) c + "'";
            if (may) {
                Case.value("int f(){return " + token + ";}", c);
            } else {
                Case.faultAt(1, "int f(){return @" + token + ";}");
            }
        }
        for (int c = 32; c < 127; c++) {
            String token = "'\\" + (char) c + "'";
            if (c == 'n' || c == '0') {
                Case.value("int f(){return " + token + ";}", c == 'n' ? 10 : 0);
            } else {
                Case.faultAt(1, "int f(){return @" + token + ";}");
            }
        }
        Case.faultAt(1, "int a=@'a");
        Case.faultAt(1, "int a=@'");
        Case.faultAt(1, "int a=@'\\");
        Case.faultAt(1, "int a=@'\\n");
        Case.faultAt(1, "int a=@'a ';");
        Case.faultAt(1, "int a=@'\\n ';");
        Case.good("int a='a';");
    }

    /** Up to 40 signs of the codes 32 to 126 but " and \. */
    private static void rows() {
        for (int c = 1; c < 256; c++) {
            boolean may = c >= 32 && c <= 126 && c != '"' && c != '\\';
            String token = "\"a" + (char) c + "\"";
            if (may) {
                Case.value("int f(){return " + token + "[1];}", c);
            } else if (c != '"') {
                Case.faultAt(1, "int f(){return @" + token + "[1];}");
            }
        }
        Case.faultAt(1, "char*a=\"a\"@\";");
        Case.good("char*a=\"\";");
        Case.good("char*a=\"" + "x".repeat(39) + "\";");
        Case.good("char*a=\"" + "x".repeat(40) + "\";");
        Case.faultAt(1, "char*a=@\"" + "x".repeat(41) + "\";");
        Case.faultAt(1, "char*a=@\"" + "x".repeat(40) + ";");
        Case.faultAt(1, "char*a=@\"");
        Case.faultAt(1, "char*a=@\"\\n\";");
    }

    /** Bytes 32 and 10 stand between tokens; others that begin none cannot stand. */
    private static void bytesBetween() {
        for (int c = 1; c < 256; c++) {
            if (c == 32 || c == 10) {
                Case.good("int a;" + (char) c);
                Case.good("int" + (char) c + "a" + (char) c + "[" + (char) c + "2" + (char) c + "]" + (char) c + ";");
            } else {
                Case.faultAt(1, "int a;@" + (char) c);
            }
        }
        Case.good("");
        Case.good(" ");
        Case.good("\n");
        Case.faultAt(1, "int a  @");
        Case.faultAt(1, "int a\n\n@");
    }

    /** Each token is as long as possible. */
    private static void longestTokens() {
        String head = "int f(int a,int b,int*p){";
        String[] good = {"a+++b", "a---b", "a- -b", "a-- -b", "a+-b", "a<<=b", "a>>=b", "a<=b", "a>=b", "a==-b", "a=-b", "a=!b",
            "a!=b", "a!=!b", "a&&b", "a&b", "a||b", "a|b", "a^=b", "a^~b", "a&*p", "a&&*p", "a* *p", "a**p", "a=*p", "a*=*p",
            "p=&b", "a-=-b", "a+=b", "a%=b", "a/=b", "a|=b", "a&=b", "a>b", "a<b", "a<-b", "a>-b", "- -a", "! !a", "!!a", "~~a",
            "-~!a", "a?b:a", "a?-b:!a", "p==&b", "p!=&b", "1&&a", "++a", "--a", "- --a", "-++a", "*p++", "*++p", "&*p==p"};
        for (String exp : good) {
            Case.good(head + exp + ";}");
        }
        String[] bad = {"a @b", "a--@b", "a++@b", "a+ @+b", "a-@+b", "a= @=b", "a@!b", "a@! =b", "a< @=b", "a> @=b",
            "a<<@<b", "a>>@>b", "a<<@<=b", "a>>@>=b", "a||@|b", "a&&@=b", "a||@=b", "a^@^b", "a%@%b", "a/@/b", "a=~@=b", "a@~=b",
            "a=@!=b", "a==@=b", "a<=@=b", "a>=@=b", "a!=@=b", "a+=@=b", "a?@:b", "a?b@;", "a@:b", "a@,b", "@+a", "@/a", "@%a",
            "@|a", "@^a", "@<a", "@=a", "@,a", "@]", "@)", "a@)", "a@]", "a[@]", "f(@,a)", "(@)", "a@{", "@:", "@?a:b"};
        for (String exp : bad) {
            Case.faultAt(1, head + exp + ";}");
        }
    }

    /** Where two ways begin alike, both are open until a token tells which one it is. */
    private static void noBacktracking() {
        Case.faultAt(1, "int @+;");
        Case.faultAt(1, "int (@a);");
        Case.faultAt(1, "int (*@)();");
        Case.faultAt(1, "int (*a@;");
        Case.faultAt(1, "int (*a)@;");
        Case.faultAt(1, "int (*a)(@a);");
        Case.faultAt(1, "int (*a)(int,@);");
        Case.faultAt(1, "int (*a)(int@(*)());");
        Case.faultAt(1, "int **@;");
        Case.faultAt(1, "void@;");
        Case.faultAt(1, "void a@[2];");
        Case.faultAt(1, "void a@=1;");
        Case.faultAt(1, "void (@a)();");
        Case.good("void (*a)();void b();void b(){}");
        Case.faultAt(1, "int a@,b;");
        Case.faultAt(1, "int a(int b)@=1;");
        Case.faultAt(1, "int a[2]@();");
        Case.faultAt(1, "int a(int b@[2]){}");
        Case.faultAt(1, "int a(int b@=1){}");
        Case.faultAt(1, "int a(void @b){}");
        Case.faultAt(1, "int a(int@,int);");
        Case.good("int a(){(int)1;(a);(a)==a;sizeof(int);}");
        Case.faultAt(1, "int a(){(@void)1;}");
        Case.faultAt(1, "int a(){(int@;}");
        Case.faultAt(1, "int a(){(int)@;}");
        Case.faultAt(1, "int a(){(int@(*)())1;}");
        Case.faultAt(1, "int a(){sizeof @int;}");
        Case.faultAt(1, "int a(){sizeof(@void);}");
        Case.faultAt(1, "int a(){sizeof(@a);}");
        Case.faultAt(1, "int a(){void @b;}");
        Case.faultAt(1, "int a(){int b@(){}}");
        Case.faultAt(1, "int a(){int b@,c;}");
        Case.faultAt(1, "int a(){int b=@{1};}");
        Case.faultAt(1, "int a(){int b[@];}");
        Case.faultAt(1, "int a(){int b[@a];}");
        Case.faultAt(1, "int a(){int(*b)()@[2];}");
        Case.faultAt(1, "int a(){for(@int b;;);}");
        Case.faultAt(1, "int a(){for(;@)}");
        Case.faultAt(1, "int a(){for(;;@;)}");
        Case.faultAt(1, "int a(){while(@)}");
        Case.faultAt(1, "int a(){do;@}");
        Case.faultAt(1, "int a(){do;while(1)@}");
        Case.faultAt(1, "int a(){switch(1)@;}");
        Case.faultAt(1, "int a(){switch(1){case 1@;}}");
        Case.faultAt(1, "int a(){switch(1){case @(1):;}}");
        Case.faultAt(1, "int a(){switch(1){case 1@+1:;}}");
        Case.faultAt(1, "int a(){switch(1){case -@'a':;}}");
        Case.faultAt(1, "int a(){switch(1){case - @-1:;}}");
        Case.faultAt(1, "int a(){switch(1){default @1:;}}");
        Case.faultAt(1, "int a(){switch(1){@int b;}}");
        Case.faultAt(1, "int a(){switch(1){case 1:if(1)@case 2:;}}");
        Case.faultAt(1, "int a(){break @1;}");
        Case.faultAt(1, "int a(){return @int;}");
        Case.faultAt(1, "int a(){if(1)@else;}");
        Case.faultAt(1, "int a(){if(1);else;@else;}");
        Case.good("int a(){if(1)if(1);else;else;}");
        Case.faultAt(1, "int a=@();");
        Case.faultAt(1, "int a={1@;");
        Case.faultAt(1, "int a={1,2,@,3};");
        Case.faultAt(1, "int a={@{1}};");
        Case.faultAt(1, "char a[2]={@\"a\"};");
        Case.faultAt(1, "int a=b@();int b;");
    }

    /** Whether a text has no fault of the first kind. */
    private static void stands(String text) {
        Codekiln x = new Codekiln();
        Case.put(x, text);
        Case.is("a fault of the kind 1 at " + x.faultPlace() + " of " + text, x.faultKind() == 1, false);
    }

    /** With 11 open one more opens, with 12 none: each sign ahead of a unary, ( of all kinds, [, ?, each assign. */
    private static void openersInExps() {
        String[] unaries = {"-", "!", "~", "*", "&", "++", "--"};
        for (String sign : unaries) {
            stands("int f(int a){return " + "- ".repeat(10) + sign + " a;}");
            Case.faultAt(1, "int f(int a){return " + "- ".repeat(11) + "@" + sign + " a;}");
            stands("int f(int a){return " + "(".repeat(10) + sign + " a" + ")".repeat(10) + ";}");
            Case.faultAt(1, "int f(int a){return " + "(".repeat(11) + "@" + sign + " a" + ")".repeat(11) + ";}");
        }
        String[] insides = {"@(1)", "@(int)1", "sizeof@(int)", "f@()", "f@(1)", "a@[1]", "1@?2:3"};
        for (String inside : insides) {
            stands("int f(int a){return " + "(".repeat(10) + inside.replace("@", "") + ")".repeat(10) + ";}");
            Case.faultAt(1, "int f(int a){return " + "(".repeat(11) + inside + ")".repeat(11) + ";}");
        }
        for (String sign : new String[] {"=", "+=", "-=", "*=", "/=", "%=", "&=", "|=", "^=", "<<=", ">>="}) {
            stands("int f(int a){return " + "(".repeat(10) + "a" + sign + "1" + ")".repeat(10) + ";}");
            Case.faultAt(1, "int f(int a){return " + "(".repeat(11) + "a@" + sign + "1" + ")".repeat(11) + ";}");
        }
        // Each kind holds itself open: 11 of them inside the BODY, not 12.
        stands("int f(int a){" + "a[".repeat(11) + "1" + "]".repeat(11) + ";}");
        Case.faultAt(1, "int f(int a){" + "a[".repeat(11) + "a@[1]" + "]".repeat(11) + ";}");
        stands("int f(int a){" + "f(".repeat(11) + "1" + ")".repeat(11) + ";}");
        Case.faultAt(1, "int f(int a){" + "f(".repeat(11) + "f@(1)" + ")".repeat(11) + ";}");
        stands("int f(int a){" + "(int)".repeat(11) + "1;}");
        Case.faultAt(1, "int f(int a){" + "(int)".repeat(11) + "@(int)1;}");
        stands("int f(int a){" + "1?2:".repeat(11) + "3;}");
        Case.faultAt(1, "int f(int a){" + "1?2:".repeat(11) + "1@?2:3;}");
        stands("int f(int a){" + "1?".repeat(11) + "1" + ":2".repeat(11) + ";}");
        Case.faultAt(1, "int f(int a){" + "1?".repeat(11) + "1@?1" + ":2".repeat(12) + ";}");
        stands("int f(int a){" + "a=".repeat(11) + "3;}");
        Case.faultAt(1, "int f(int a){" + "a=".repeat(11) + "a@=3;}");
    }

    /** The words if while do for switch, and { of blocks and of a switch. */
    private static void openersInStatements() {
        String ten = "int f(){" + "{".repeat(9);
        String close = "}".repeat(9) + "}";
        // 10 are open: a word and its ( are the 11th and the 12th.
        stands(ten + "if(1);" + close);
        stands(ten + "while(1);" + close);
        stands(ten + "for(;;);" + close);
        stands(ten + "do;while(1);" + close);
        stands(ten + "switch(1){case -1:;}" + close);
        stands(ten + "{{;}}" + close);
        stands(ten + "int(*g)(int);" + close);
        stands(ten + "int g[2];" + close);
        // 11 are open: the word is the 12th, its ( is too much.
        Case.faultAt(1, ten + "{if@(1);}" + close);
        Case.faultAt(1, ten + "{while@(1);}" + close);
        Case.faultAt(1, ten + "{for@(;;);}" + close);
        Case.faultAt(1, ten + "{do;while@(1);}" + close);
        Case.faultAt(1, ten + "{switch@(1){}}" + close);
        stands(ten + "{{;}}" + close);
        stands(ten + "{int(*g)(int);}" + close);
        stands(ten + "{int g[2];}" + close);
        stands(ten + "{(1);}" + close);
        // 12 are open.
        Case.faultAt(1, ten + "{{@if(1);}}" + close);
        Case.faultAt(1, ten + "{{@while(1);}}" + close);
        Case.faultAt(1, ten + "{{@for(;;);}}" + close);
        Case.faultAt(1, ten + "{{@do;while(1);}}" + close);
        Case.faultAt(1, ten + "{{@switch(1){}}}" + close);
        Case.faultAt(1, ten + "{{@{;}}}" + close);
        Case.faultAt(1, ten + "{{int@(*g)(int);}}" + close);
        Case.faultAt(1, ten + "{{int g@[2];}}" + close);
        Case.faultAt(1, ten + "{{@(1);}}" + close);
        Case.faultAt(1, ten + "{{@-1;}}" + close);
        Case.faultAt(1, ten + "{{int g=@-1;}}" + close);
        Case.faultAt(1, ten + "{{return@(1);}}" + close);
        // The word stays open for the statement, and for the else.
        Case.faultAt(1, ten + "if(1){@{;}}" + close);
        stands(ten + "if(1){;}else{;}" + close);
        Case.faultAt(1, ten + "if(1);else{@{;}}" + close);
        Case.faultAt(1, ten + "while(1){@{;}}" + close);
        Case.faultAt(1, ten + "for(;;){@{;}}" + close);
        Case.faultAt(1, ten + "do{@{;}}while(1);" + close);
        Case.faultAt(1, ten + "switch(1){default:@{;}}" + close);
    }

    /** The * of a type and of ( * NAME ), the - of a constant, the = of a thing or local, what stands behind or between. */
    private static void whatOpensNothing() {
        String twelve = "int f(int a){" + "{".repeat(11);
        String close = "}".repeat(12);
        for (String item : new String[] {";", "1;", "a;", "a++;", "a--;", "1-1;", "1*1;", "1&1;", "1&&1||1;", "1<<1>>1;", "1==1!=1;",
            "int b=1;", "int**b;", "int*b=0;", "return 1;", "return;", "'a'+\"b\";"}) {
            stands(twelve + item + close);
        }
        stands("int f(){" + "{".repeat(9) + "switch(1){case -1:case -2L:;}" + "}".repeat(10));
        stands("int f(){" + "{".repeat(9) + "while(1)continue;do break;while(1);" + "}".repeat(10));
        stands("int f(){" + "{".repeat(10) + "int(*b)();int(*c)(int**)=0;" + "}".repeat(11));
    }

    /** What has ended is open no more. */
    private static void closedAgain() {
        stands("int f(int a){" + "if(1);else;while(1);do;while(1);for(;;);switch(1){}".repeat(16) + "}");
        stands("int f(int a){return f((1)+(1)+(1)+(1)+(1)+(1)+(1)+(1)+(1)+(1)+(1)+(1)+(1)+(1)+(1)+(1));}");
        stands("int f(int a){return " + "-1+!1*~1+".repeat(8) + "1;}");
        stands("int f(int a){return " + "(int)1+".repeat(16) + "1;}");
        stands("int f(int a){return f(" + "a=1,".repeat(16) + "1);}");
        stands("int f(int a){return f(" + "1?2:3,".repeat(16) + "1);}");
        stands("int f(int a){return " + "(1?2:3)+".repeat(16) + "1;}");
        stands("int f(int a){return " + "a[1]+".repeat(16) + "1;}");
        stands("int f(int a){return " + "f(1)+".repeat(16) + "1;}");
        stands("int f(int a){return " + "sizeof(int)+".repeat(16) + "1;}");
        stands("int f(int a){" + "{}".repeat(40) + "}");
        stands("int f(){" + "int(*a)();".repeat(30) + "}");
        stands("int f(){" + "int a[2];".repeat(30) + "}");
        // An if is at its end as soon as no else follows.
        String nine = "int f(){" + "{".repeat(8);
        stands(nine + "if(1)if(1);if(1);" + "}".repeat(9));
        Case.faultAt(1, nine + "if(1)if(1)if@(1);" + "}".repeat(9));
        stands(nine + "if(1)if(1);else;else{}" + "}".repeat(9));
    }
}
