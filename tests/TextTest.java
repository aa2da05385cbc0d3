/** Promises 1 to 4: texts and their faults. */
public final class TextTest {
    public static void main(String[] args) {
        newObject();
        typing();
        pieces();
        wholeTexts();
        tokens();
        firstKind();
        opened();
        secondKind();
        limits();
        thirdKind();
        firstsAndStatements();
        loading();
        Case.end();
    }

    private static void newObject() {
        Codekiln x = new Codekiln();
        Case.is("errors()", x.errors(), 0);
        Case.is("clearText()", x.clearText(), 0);
        Case.is("clearInput()", x.clearInput(), 0);
        Case.is("clearModules()", x.clearModules(), 0);
        Case.is("byteAt(0)", x.byteAt(0), -1);
        Case.is("checksum()", x.checksum(), 17);
        Case.is("meanSteps()", x.meanSteps() == 0.0, true);
        Case.is("fault(true)", x.fault(true), 0);
        Case.is("fault(false)", x.fault(false), -1);
        for (int what = 0; what < 7; what++) {
            Case.is("meant(" + what + ")", x.meant(what), 0);
        }
        Case.is("meantByte(16)", x.meantByte(16), 0);
        Case.noIndex("programIs(0, 0)", () -> x.programIs(0, 0));
        Case.noIndex("moduleIs(0, 0)", () -> x.moduleIs(0, 0));
        Case.noIndex("runAt(0, 0)", () -> x.runAt(0, 0));
        Case.noElement("out(0)", () -> x.out(0));
        Case.is("NONE", Codekiln.NONE, -1);
    }

    private static void typing() {
        Codekiln x = new Codekiln();
        Case.is("type", x.type(0x696E742078L, 0, 0x3B00L, 0), 6);
        Case.is("fault of int x;", x.faultKind(), 0);
        Case.is("type with zeros between", x.type(0x2000000000000020L, 0, 0, 0), 8);
        Case.is("type nothing", x.type(0, 0, 0, 0), 8);
        Case.is("type -1", x.type(-1L, 0, 0, 0), 16);
        Case.is("a byte 255 begins no token", x.faultPlace(), 8);
        Case.is("clearText", x.clearText(), 16);
        for (int k = 0; k < 37; k++) {
            x.type(0x2020202020202020L, 0x2020202020202020L, 0x2020202020202020L, 0x2020202020202020L);
        }
        Case.is("type up to 1200", x.type(0x2020202020202020L, 0x2020202020202020L, 0, 0), 1200);
        Case.noState("type beyond 1200", () -> x.type(0, 0, 0, 32));
        Case.is("type nothing at 1200", x.type(0, 0, 0, 0), 1200);
        Case.noState("piece beyond 1200", () -> x.piece(0));
        Case.noArgument("piece(8) beyond 1200", () -> x.piece(8));
        Case.is("clearText", x.clearText(), 1200);
    }

    private static void pieces() {
        int[] lengths = {52, 59, 71, 95, 110, 103, 79, 126};
        int[] functions = {1, 1, 1, 2, 3, 1, 1, 3};
        for (int k = 0; k < 8; k++) {
            Codekiln x = new Codekiln();
            Case.is("piece(" + k + ")", x.piece(k), lengths[k]);
            Case.is("fault of piece " + k, x.faultKind(), 0);
            x.load();
            Case.is("functions of piece " + k, x.programIs(0, 0), functions[k]);
        }
        Codekiln x = new Codekiln();
        Case.noArgument("piece(-1)", () -> x.piece(-1));
        Case.noArgument("piece(8)", () -> x.piece(8));
        x.piece(5);
        x.piece(6);
        Case.is("pieces behind one another", x.clearText(), 182);
        Codekiln y = new Codekiln();
        y.feed(3);
        y.feed(4);
        y.piece(7);
        y.piece(5);
        y.load();
        y.mean(0, 0, 0, 0, 0);
        Case.is("sum of piece 7", y.meant(0), 7);
        y.mean(0, 2, 3, 4, 0);
        Case.is("hyp of piece 7", y.meant(0), 25);
        y.mean(0, 3, 1, 0, 0);
        Case.is("first put of piece 5", y.out(0), 10);
        Case.is("second put of piece 5", y.out(1), 20);
    }

    private static void wholeTexts() {
        Case.good("");
        Case.good(" \n ");
        Case.good("int x;char y[3]={1,-2,'a'};long z=-5L;int*p=0;char*s=\"a b\";int(*f)(int,char*)=0;void(*g)();");
        Case.good("void f(){;{}{;}if(1);else if(2){}else;while(0);do;while(1);for(;;)break;switch(1){}return;}");
        Case.good("int f(int a);int f(int b){return b;}int f(int c);");
        Case.good("int f(){int f=1;{int f=2;}return f;}");
        Case.good("long a[200];");
        Case.good("int f(int a){return -a+1;}");
        Case.good("int x(){int *p=0;int **q=&p;return **q++;}");
        Case.good("int g(int(*f)(int),int x){return f(x);}int h(int x){return x;}int k(){return g(h,1)+(g==g);}");
        Case.good("char f(){return 300;}int g(){int x=x;return sizeof(char*)+f();}");
        Case.good("int f(){switch(1){case 1:int a;case 'b':default:{int a;}}return 0;}");
        Case.faultAt(3, "int a;int f(){return a<1?2:3@=5;}");
    }

    private static void tokens() {
        Case.good("int abcdefghi_;");
        Case.faultAt(1, "int @abcdefghijk;");
        Case.faultAt(1, "int a@B;");
        Case.good("int a=2147483647;");
        Case.faultAt(1, "int a=@2147483648;");
        Case.good("int a=0000000001;");
        Case.faultAt(1, "int a=@00000000001;");
        Case.good("long a=123456789012345678L;");
        Case.faultAt(1, "long a=@1234567890123456789L;");
        Case.faultAt(1, "long a=@12345678901;");
        Case.good("int a='\\n';int b='\\0';int c='\"';int d='~';int e=' ';");
        Case.faultAt(1, "int a=@'\\t';");
        Case.faultAt(1, "int a=@''';");
        Case.faultAt(1, "int a=@'';");
        Case.faultAt(1, "int a=@'ab';");
        Case.faultAt(1, "int a=@'\n';");
        Case.good("char*a=\"1234567890123456789012345678901234567890\";");
        Case.faultAt(1, "char*a=@\"12345678901234567890123456789012345678901\";");
        Case.faultAt(1, "char*a=@\"a\\n\";");
        Case.faultAt(1, "char*a=@\"a\nb\";");
        Case.faultAt(1, "char*a=@\"abc;");
        Case.good("char*a=\"it's\";");
        Case.faultAt(1, "int a;@\t");
        Case.faultAt(1, "int a;@$");
        Case.good("int f(int a){return a+++a---a<<1>>a;}");
        Case.faultAt(3, "int f(int a){return a++@+++a;}");
        Case.faultAt(1, "int f(int a){a>>=1;a<<=2;a>>=@=3;}");
        Case.good("int iff;int f(){int if_=1;return if_;}");
        Case.faultAt(1, "int @if;");
        Case.faultAt(1, "int a=1@b;");
    }

    private static void firstKind() {
        Case.faultAt(1, "@x;");
        Case.faultAt(1, "int@");
        Case.faultAt(1, "int x@");
        Case.faultAt(1, "int x; int y  @");
        Case.faultAt(1, "void x@;");
        Case.faultAt(1, "void @*x;");
        Case.faultAt(1, "int f(void@);");
        Case.faultAt(1, "int f(int@);");
        Case.faultAt(1, "int f(int a,@);");
        Case.faultAt(1, "int a[@-1];");
        Case.faultAt(1, "int a[@'a'];");
        Case.faultAt(1, "int a[2]@[3];");
        Case.faultAt(1, "int a={@};");
        Case.faultAt(1, "int a={1,@};");
        Case.faultAt(1, "int a=-@'a';");
        Case.faultAt(1, "int a=1@+1;");
        Case.faultAt(1, "int (*f)(@void);");
        Case.faultAt(1, "int (*f)(int @a);");
        Case.faultAt(1, "int (@f)(int);");
        Case.faultAt(1, "int (*f)(int)@[2];");
        Case.faultAt(1, "int f(){int a[2]@=1;}");
        Case.faultAt(1, "int f(){if(1)@int a;}");
        Case.faultAt(1, "int f(){@else;}");
        Case.faultAt(1, "int f(){@case 1:;}");
        Case.faultAt(1, "int f(){switch(1){@;}}");
        Case.faultAt(1, "int f(){switch(1){case 1:{@case 2:;}}}");
        Case.faultAt(1, "int f(){switch(1){case @x:;}}");
        Case.faultAt(1, "int f(){for(@int i=0;;);}");
        Case.faultAt(1, "int f(){for(;;@;);}");
        Case.faultAt(1, "int f(){do;while(1)@}");
        Case.faultAt(1, "int f(){return (@void)1;}");
        Case.faultAt(1, "int f(){return (int @x)1;}");
        Case.faultAt(1, "int f(){return sizeof @1;}");
        Case.faultAt(1, "int f(){return sizeof(@f);}");
        Case.faultAt(1, "int f(){return sizeof(int)@[1];}");
        Case.faultAt(1, "int f(){return sizeof(int)@++;}");
        Case.faultAt(1, "int f(){return f()@();}");
        Case.faultAt(1, "int f(){return (f)@();}");
        Case.faultAt(1, "int f(){return 1 @2;}");
        Case.faultAt(1, "int f(){return f(1,@);}");
        Case.faultAt(1, "int f(){return 1?2@;}");
        Case.faultAt(1, "int f(){return 1+@;}");
        Case.faultAt(1, "int f(){return (1@;}");
        Case.faultAt(1, "int f(){return @+1;}");
        Case.faultAt(1, "int f(){1@,2;}");
        Case.faultAt(1, "int f(){@");
        Case.faultAt(1, "int f(){}@}");
        Case.faultAt(1, "int f(){}@;");
        Case.faultAt(1, "int f()@=1;");
        Case.faultAt(1, "int f@,g;");
    }

    private static void opened() {
        String minus = "- - - - - - - - - - ";
        Case.good("int f(){return " + minus + "- 1;}");
        Case.faultAt(1, "int f(){return " + minus + "- @- 1;}");
        Case.good("int f(){return ((((((((((( 1 )))))))))));}");
        Case.faultAt(1, "int f(){return (((((((((((@( 1 ))))))))))));}");
        Case.faultAt(1, "int f(){return (((((((((((f@()))))))))))));}");
        Case.good("int f(){return " + minus + "(int)1;}");
        Case.faultAt(1, "int f(){return " + minus + "(int)@-1;}");
        Case.good("int f(){return " + minus + "(int)1-1;}");
        Case.faultAt(1, "int f(){return " + minus + "- @(int)1;}");
        Case.good("int f(){return " + minus + "sizeof(int);}");
        Case.faultAt(1, "int f(){return " + minus + "- sizeof@(int);}");
        Case.good("int f(int a){a=a=a=a=a=a=a=a=a=a=a=a;}");
        Case.faultAt(1, "int f(int a){a=a=a=a=a=a=a=a=a=a=a=a@=a;}");
        Case.good("int f(){return 1?2:3?4:5?6:7?8:9?1:2?3:4?5:6?7:8?9:1?2:3?4:5;}");
        Case.faultAt(1, "int f(){return 1?2:3?4:5?6:7?8:9?1:2?3:4?5:6?7:8?9:1?2:3?4:5@?6:7;}");
        Case.good("int f(){{{{{{{{{{{{;}}}}}}}}}}}}");
        Case.faultAt(1, "int f(){{{{{{{{{{{{@{;}}}}}}}}}}}}}");
        Case.good("int f(){if(1)if(1)if(1)if(1)if(1)if(1)if(1)if(1)if(1)if(1);}");
        Case.faultAt(1, "int f(){if(1)if(1)if(1)if(1)if(1)if(1)if(1)if(1)if(1)if(1)if@(1);}");
        Case.faultAt(1, "int f(){do do do do do do do do do do do @do;while(1);}");
        Case.faultAt(1, "int f(){do do do do do do do do do do do;while@(1);}");
        Case.good("int f(){if(1);if(1);if(1);if(1);if(1);if(1);if(1);if(1);if(1);if(1);if(1);if(1);if(1);}");
        Case.faultAt(1, "int f(){while(1)for(;;)switch(1){default:while(1)for(;;)switch(1){default:do for(;;)switch@(1){}while(1);}}}");
        Case.good("int f(){return - - - - - - - - - -f()-(1);}");
    }

    private static void secondKind() {
        Case.faultAt(2, "int f(){return @x;}");
        Case.faultAt(2, "int f(){return @g();}int g(){return 1;}");
        Case.faultAt(2, "int(*f)()=@g;");
        Case.faultAt(2, "int f(){{int a;}return @a;}");
        Case.faultAt(2, "int f(){switch(1){case 1:int a;}return @a;}");
        Case.faultAt(2, "int f(int a){return a;}int g(){return @a;}");
        Case.faultAt(2, "int a;int @a;");
        Case.faultAt(2, "int a;int @a(){return 1;}");
        Case.faultAt(2, "int a(){return 1;}int @a;");
        Case.faultAt(2, "int @get;");
        Case.faultAt(2, "int @put(int a){return a;}");
        Case.faultAt(2, "void @put(int a);");
        Case.good("int f(int get){int put=get;return put;}");
        Case.faultAt(2, "int f(int a,int @a){return 1;}");
        Case.faultAt(2, "int f(int a,int @a);int f(int a,int b){return 1;}");
        Case.faultAt(2, "int f(int a){int @a;}");
        Case.good("int f(int a){{int a;}}");
        Case.faultAt(2, "int f(){int a;int(*@a)();}");
        Case.faultAt(2, "int @f();");
        Case.faultAt(2, "int @f(int a);long f(int a){return 1;}");
        Case.faultAt(2, "int f(int a){return 1;}int @f(long a);");
        Case.faultAt(2, "int f(){return 1;}int @f(){return 1;}");
        Case.faultAt(2, "int f(){return 1;}int f();int @f(int a);");
        Case.good("int f(int(*g)(int));int f(int(*h)(int)){return h(1);}");
        Case.faultAt(2, "int f(int(*g)(int)){return 1;}int @f(int(*h)(char));");
        Case.faultAt(2, "int a[@0];");
        Case.faultAt(2, "int a[@201];");
        Case.faultAt(2, "int a[@1L];");
        Case.faultAt(2, "int f(){int a[@201];}");
        Case.faultAt(2, "int f(){@break;}");
        Case.faultAt(2, "int f(){@continue;}");
        Case.faultAt(2, "int f(){switch(1){case 1:@continue;}}");
        Case.good("int f(){for(;;)switch(1){case 1:continue;}}");
        Case.good("int f(){switch(1){case 1:break;}}");
        Case.faultAt(2, "int f(){while(1){}@break;}");
        Case.faultAt(2, "int f(){switch(1){case 1:case 2:@case 1:;}}");
        Case.faultAt(2, "int f(){switch(1){case 97:@case 'a':;}}");
        Case.faultAt(2, "int f(){switch(1){case 1:@case 1L:;}}");
        Case.faultAt(2, "int f(){switch(1){case 0:@case -0:;}}");
        Case.good("int f(){switch(1){case 1:case -1:switch(2){case 1:;}}}");
        Case.faultAt(2, "int f(){switch(1){default:@default:;}}");
        Case.faultAt(2, "int f(){@x;int g;break;}");
        Case.faultAt(1, "int f(){x;int g;break;@");
    }

    private static String row(String one, int many) {
        StringBuilder all = new StringBuilder();
        for (int k = 0; k < many; k++) {
            all.append(one.replace("#", String.valueOf((char) ('a' + k))));
        }
        return all.toString();
    }

    private static void limits() {
        Case.good(row("int #(){}", 12));
        Case.faultAt(2, row("int #(){}", 12) + "int @m(){}");
        Case.good(row("int #();", 12) + row("int #(){}", 12));
        Case.good(row("int #;", 12));
        Case.faultAt(2, row("int #;", 12) + "int @m;");
        Case.good("int f(int a,int b,int c,int d,int e){}");
        Case.faultAt(2, "int f(int a,int b,int c,int d,int e,int @g){}");
        Case.good("int f(){" + row("int #;", 20) + "}");
        Case.faultAt(2, "int f(){" + row("int #;", 20) + "{int @u;}}");
        Case.good("int(*f)(int,int,int,int,int);");
        Case.faultAt(2, "int(*f)(int,int,int,int,int,@char*);");
        Case.good("void f(){" + row("\"#\";", 8) + "}");
        Case.faultAt(2, "void f(){" + row("\"#\";", 8) + "@\"\";}");
        Case.good("int f(){switch(1){" + row("case '#':", 11) + "default:;}}");
        Case.faultAt(2, "int f(){switch(1){" + row("case '#':", 12) + "@default:;}}");
        Case.faultAt(2, "int f(){switch(1){" + row("case '#':", 12) + "@case 1:;}}");
        Case.good("long a[200];");
        Case.faultAt(2, "long a[200];char @b;");
        Case.good("char a;long b[198];int c;int d;");
        Case.faultAt(2, "char a;long b[199];char @c;");
        Case.faultAt(2, "long a[199];int b;char c;int @d;");
        Case.faultAt(2, "long a[200];char @b[201];");
        Case.faultAt(2, "long a[199];long b[@201];char c;");
        Case.good("int f(int a){return " + row("a+", 23) + "a;}");
        Case.faultAt(2, "int f(int a){return " + row("a+", 23) + "a@+a;}");
        Case.good("int f(int a){return (" + row("a+", 22) + "a)+a;}");
        Case.faultAt(2, "int f(int a){return @-(" + row("a+", 23) + "a);}");
        Case.faultAt(2, "int f(int a){return @f(" + row("a+", 23) + "a);}");
        Case.faultAt(2, "int f(int a){return (" + row("a+", 23) + "a)@?1:2;}");
        Case.faultAt(2, "int f(int a){return 1@?2:(" + row("a+", 23) + "a);}");
        Case.faultAt(2, "int f(int a){a@=(" + row("a+", 23) + "a);}");
        Case.faultAt(2, "int f(int a){return @(char)(" + row("a+", 23) + "a);}");
        Case.faultAt(2, "int f(int*a){return a@[" + row("1+", 23) + "1];}");
        Case.faultAt(2, "int f(int a){return (" + row("a+", 23) + "a)@++;}");
        Case.good("int f(){return (((" + row("f()+", 23) + "f())));}");
    }

    private static void thirdKind() {
        Case.faultAt(3, "int f(){return @get;}");
        Case.faultAt(3, "int f(int a){return a@[1];}");
        Case.faultAt(3, "int f(int*a){return a@[1L];}");
        Case.good("int f(int*a,char c){return a[c];}");
        Case.faultAt(3, "int f(int*a){return 1@[a];}");
        Case.faultAt(3, "int f(int a){return @*a;}");
        Case.faultAt(3, "int f(int a){return @**&a;}");
        Case.faultAt(3, "int f(int a){return @&1==0;}");
        Case.faultAt(3, "int a[3];int f(){return @&a==0;}");
        Case.faultAt(3, "int f(){return @&f==0;}");
        Case.faultAt(3, "int f(int(*g)()){return @&g==0;}");
        Case.good("int f(int a){return &(a)==0;}");
        Case.faultAt(3, "int f(int*a){return @-a;}");
        Case.faultAt(3, "int f(int*a){return @~a==0;}");
        Case.good("int f(int*a){return !a+!f;}");
        Case.faultAt(3, "int f(){return @!put(1);}");
        Case.faultAt(3, "int f(){@++1;}");
        Case.faultAt(3, "int f(int a){a++@++;}");
        Case.faultAt(3, "int f(int(*g)()){g@++;}");
        Case.good("int f(char a,int*b){++a;b--;(*b)++;b[1]--;}");
        Case.faultAt(3, "int f(){return @(int)f;}");
        Case.faultAt(3, "int f(){@(int)put(1);}");
        Case.good("int f(char*p){return (int)(long*)(char)p;}");
        Case.faultAt(3, "int f(int*a){return a@*2;}");
        Case.faultAt(3, "int f(int*a){return a@|a;}");
        Case.faultAt(3, "int f(int*a){return 1@<<a;}");
        Case.faultAt(3, "int f(int*a){a@+1L;}");
        Case.faultAt(3, "int f(int*a){1L@+a;}");
        Case.good("int f(int*a,char*b){1+a;a+'a';a-1;a-a;b-*b;}");
        Case.faultAt(3, "int f(int*a){a@+a;}");
        Case.faultAt(3, "int f(int*a){1@-a;}");
        Case.faultAt(3, "int f(int*a,char*b){a@-b;}");
        Case.faultAt(3, "int f(int*a,char*b){a@<b;}");
        Case.faultAt(3, "int f(int*a){a@<0;}");
        Case.good("int f(int*a){a==0;0!=a;a==000;f==f;f!=0;0==f;}");
        Case.faultAt(3, "int f(int*a){a@==(0);}");
        Case.faultAt(3, "int f(int*a){a@==0L;}");
        Case.faultAt(3, "int f(int*a){a@=='\\0';}");
        Case.faultAt(3, "int f(int*a){a@==1;}");
        Case.faultAt(3, "int f(){return 1;}long g(){return f@==g;}");
        Case.faultAt(3, "int f(){return f@<f;}");
        Case.good("int f(int*a){return a&&f||1L;}");
        Case.faultAt(3, "int f(){return 1@&&put(1);}");
        Case.faultAt(3, "int f(){return put(1)@||1;}");
        Case.faultAt(3, "int f(){return put(1)@?1:2;}");
        Case.faultAt(3, "int f(int*a){1?a@:1;}");
        Case.good("int f(int*a){1?a:0;1?0:a;1?f:0;1?1:2L;1?'a':*a;}");
        Case.faultAt(3, "int f(int*a,char*b){1?a@:b;}");
        Case.faultAt(3, "int f(){1?put(1)@:put(2);}");
        Case.faultAt(3, "int f(){1@=2;}");
        Case.faultAt(3, "int a[2];int f(){a@=0;}");
        Case.faultAt(3, "int f(){f@=0;}");
        Case.faultAt(3, "int f(int a,int b){a+b@=1;}");
        Case.faultAt(3, "int f(int a,int b){1?a:b@=1;}");
        Case.good("int f(int a){(a)=1;((a))+=2L;*&a=3;}");
        Case.faultAt(3, "int f(int*a){a@=1;}");
        Case.faultAt(3, "int f(int*a,char*b){a@=b;}");
        Case.good("int h(int*a){return 1;}int f(int*a,int(*g)(int*)){a=0;g=0;g=h;return 1;}");
        Case.faultAt(3, "int f(int*a){a@-=a;}");
        Case.good("int f(int*a){a-=1;a+='a';}");
        Case.faultAt(3, "int f(int*a){a@*=2;}");
        Case.faultAt(3, "int f(int*a,int b){b@+=a;}");
        Case.faultAt(3, "int f(int a){return @a();}");
        Case.faultAt(3, "int f(int a){return @f();}");
        Case.faultAt(3, "int f(){return @get(1);}");
        Case.faultAt(3, "int f(){@put();}");
        Case.faultAt(3, "int f(int*a){return f(@1);}");
        Case.faultAt(3, "int f(int*a){return f(@(0));}");
        Case.good("int f(int*a){return f(0)+f(a);}");
        Case.faultAt(3, "int f(int a){return f(@put(1));}");
        Case.faultAt(3, "int f(int*a,int*b){return f(@1,2);}");
        Case.faultAt(3, "int f(int a){return f(@*a,1);}");
        Case.good("int f(int(*g)(char)){return g(1L);}");
        Case.good("int(*g)(int);int f(){return g(1);}");
        // Of what has a fault within it nothing is asked.
        Case.faultAt(3, "int f(int*a){*(a@*a)=a[1L];}");
        Case.faultAt(3, "int f(int a){return -(*(@*a));}");
    }

    private static void firstsAndStatements() {
        Case.faultAt(3, "int f(){if(@put(1));}");
        Case.faultAt(3, "int f(){while(@(put(1)));}");
        Case.faultAt(3, "int f(){do;while(@put(1));}");
        Case.faultAt(3, "int f(){for(put(1);@put(1);put(1));}");
        Case.good("int f(int*p){if(p);while(f);for(put(1);1L;put(1));}");
        Case.faultAt(3, "int f(){switch(@1L){}}");
        Case.faultAt(3, "int f(int*p){switch(@p){}}");
        Case.good("int f(char p){switch(p){}}");
        Case.faultAt(3, "int f(){switch(1){@case 1L:;}}");
        Case.faultAt(3, "int f(){@return;}");
        Case.faultAt(3, "void f(){@return 1;}");
        Case.faultAt(3, "void f(){@return put(1);}");
        Case.faultAt(3, "int*f(){return @1;}");
        Case.good("int*f(){return 0;}char g(){return 1L;}long h(){return 'a';}");
        Case.faultAt(3, "int f(){return put(1)@-1;}");
        Case.faultAt(3, "int f(){int*a=@1;}");
        Case.faultAt(3, "int f(){int a=@put(1);}");
        Case.good("int f(){int a=1L;char b=a;long c=b;int*d=0;int(*e)()=f;}");
        Case.faultAt(3, "int a=@{1};");
        Case.faultAt(3, "int a=@\"a\";");
        Case.faultAt(3, "int b;int a=@b;");
        Case.good("int a=1L;char b=-300;long c='a';");
        Case.faultAt(3, "int a[2]=@1;");
        Case.faultAt(3, "int a[2]=@{1,2,3};");
        Case.good("int a[2]={1,2L};char b[2]=\"a\";long c[1]={'a'};char d[1]=\"\";");
        Case.faultAt(3, "char b[2]=@\"ab\";");
        Case.faultAt(3, "int b[9]=@\"ab\";");
        Case.faultAt(3, "int*b[2]=@{0};");
        Case.faultAt(3, "int*b=@1;");
        Case.faultAt(3, "int*b=@-0;");
        Case.faultAt(3, "int*b=@0L;");
        Case.faultAt(3, "int*b=@'\\0';");
        Case.faultAt(3, "int*b=@\"a\";");
        Case.faultAt(3, "char**b=@\"a\";");
        Case.faultAt(3, "int(*f)()=@1;");
        Case.faultAt(3, "int g(int a){return a;}int(*f)()=@g;");
        Case.faultAt(3, "int(*f)()=@get;");
        Case.faultAt(3, "int(*f)()=@f;");
        Case.good("int g(){return 1;}int(*f)()=g;int(*h)()=0;char*s=\"a\";");
    }

    private static void loading() {
        Codekiln x = new Codekiln();
        Case.put(x, "int a");
        Case.noState("load() of a fault", () -> x.load());
        Case.is("clearText()", x.clearText(), 5);
        for (int k = 0; k < 6; k++) {
            x.piece(k);
            Case.is("load()", x.load(), k);
            Case.is("the text behind load()", x.clearText(), 0);
        }
        x.piece(7);
        Case.is("fault beside 6 programs", x.faultKind(), 0);
        Case.noState("load() of a 7th program", () -> x.load());
        Case.is("the text behind that", x.clearText(), 126);
        Case.put(x, "int f(){return y;}");
        Case.is("fault beside 6 programs", x.faultPlace(), 15);
        Case.is("functions of the last one", x.programIs(5, 0), 1);
    }
}
