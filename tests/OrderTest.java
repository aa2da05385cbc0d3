/** The grammar of exps and statements (section 2): what binds nearer, from which side, and what belongs to what. */
public final class OrderTest {
    /** Signs of two sides, from those that bind the least to those that bind the most. */
    private static final String[][] LEVELS = {{"||"}, {"&&"}, {"|"}, {"^"}, {"&"}, {"==", "!="}, {"<", "<=", ">", ">="}, {"<<", ">>"}, {"+", "-"},
        {"*", "/", "%"}};

    public static void main(String[] args) {
        levels();
        fromTheLeft();
        ahead();
        behind();
        choicesAndAssigns();
        valuesOfLevels();
        statements();
        Case.end();
    }

    private static String code(String exp) {
        return Case.code(Case.made("int**q;int f(int a,int b,int c,int*p,int d){" + exp + ";}"), 0, 2);
    }

    private static void alike(String exp, String bracketed) {
        Case.is(exp + " is " + bracketed, code(exp), code(bracketed));
    }

    /** Two texts that are not the same: otherwise alike() would tell nothing. */
    private static void differ(String exp, String bracketed) {
        Case.is(exp + " is not " + bracketed, code(exp).equals(code(bracketed)), false);
    }

    private static void levels() {
        for (int low = 0; low < LEVELS.length; low++) {
            for (int high = low + 1; high < LEVELS.length; high++) {
                for (String one : LEVELS[low]) {
                    for (String other : LEVELS[high]) {
                        alike("a" + one + "b" + other + "c", "a" + one + "(b" + other + "c)");
                        alike("a" + other + "b" + one + "c", "(a" + other + "b)" + one + "c");
                        differ("a" + one + "b" + other + "c", "(a" + one + "b)" + other + "c");
                        differ("a" + other + "b" + one + "c", "a" + other + "(b" + one + "c)");
                    }
                }
            }
        }
    }

    private static void fromTheLeft() {
        for (String[] level : LEVELS) {
            for (String one : level) {
                for (String other : level) {
                    alike("a" + one + "b" + other + "c", "(a" + one + "b)" + other + "c");
                    differ("a" + one + "b" + other + "c", "a" + one + "(b" + other + "c)");
                }
            }
        }
    }

    /** What stands ahead of a unary binds nearer than all of two sides. */
    private static void ahead() {
        for (String sign : new String[] {"-", "!", "~", "(char)", "(long)", "++", "--"}) {
            for (String[] level : LEVELS) {
                for (String two : level) {
                    alike(sign + "a" + two + "b", "(" + sign + "a)" + two + "b");
                    alike("a" + two + " " + sign + "b", "a" + two + "(" + sign + "b)");
                }
            }
        }
        alike("-~a", "-(~a)");
        alike("!-a", "!(-a)");
        alike("(long)-a", "(long)(-a)");
        alike("-(long)a", "-((long)a)");
        alike("sizeof(int)*a", "4*a");
        alike("sizeof(long)-a", "8-a");
        alike("sizeof(char)+a", "1+a");
        alike("sizeof(char*)+a", "4+a");
    }

    /** What stands behind an atom binds nearer than what stands ahead of it. */
    private static void behind() {
        alike("*p++", "*(p++)");
        differ("*p++", "(*p)++");
        alike("*q[a]", "*(q[a])");
        alike("**q", "*(*q)");
        alike("&p[a]", "&(p[a])");
        alike("-p[a]", "-(p[a])");
        alike("-a++", "-(a++)");
        alike("!a--", "!(a--)");
        alike("++*p", "++(*p)");
        alike("*++p", "*(++p)");
        alike("(char)p[1]", "(char)(p[1])");
        alike("p[a]++", "(p[a])++");
        alike("~f(a,b,c,p,d)", "~(f(a,b,c,p,d))");
        alike("p[a+b]+c", "(p[a+b])+c");
        alike("p[a]=b", "(p[a])=b");
        alike("*p=b", "(*p)=b");
    }

    private static void choicesAndAssigns() {
        alike("a?b:c?d:a", "a?b:(c?d:a)");
        differ("a?b:c?d:a", "(a?b:c)?d:a");
        alike("a?b?c:d:a", "a?(b?c:d):a");
        alike("a||b?c:d", "(a||b)?c:d");
        differ("a||b?c:d", "a||(b?c:d)");
        alike("a?b:c||d", "a?b:(c||d)");
        alike("a?b=c:d", "a?(b=c):d");
        alike("a=b=c", "a=(b=c)");
        alike("a=b?c:d", "a=(b?c:d)");
        alike("a+=b-=c", "a+=(b-=c)");
        alike("a=b||c", "a=(b||c)");
        alike("a=b+c*d", "a=(b+(c*d))");
        alike("a=-b", "a=(-b)");
        alike("p[a=b]", "p[(a=b)]");
        alike("f(a=b,c?d:a,b,p,d)", "f((a=b),(c?d:a),b,p,d)");
        for (String sign : new String[] {"=", "+=", "-=", "*=", "/=", "%=", "&=", "|=", "^=", "<<=", ">>="}) {
            alike("a" + sign + "b" + sign + "c", "a" + sign + "(b" + sign + "c)");
            alike("a" + sign + "b?c:d", "a" + sign + "(b?c:d)");
            alike("a" + sign + "b||c", "a" + sign + "(b||c)");
            alike("*p" + sign + "b+c", "(*p)" + sign + "(b+c)");
        }
        // A choice, or what has two sides, ahead of an assign is all its left side: that is no PLACE.
        Case.faultAt(3, "int f(int a,int b,int c){return a?b:c@=1;}");
        Case.faultAt(3, "int f(int a,int b){return a+b@=1;}");
        Case.faultAt(3, "int f(int a,int b){return a||b@+=1;}");
        Case.faultAt(3, "int f(int a){return -a@=1;}");
        Case.good("int f(int a,int b,int c){return a?b:(c=1);}");
    }

    /** What is worked out for them, by both ways. */
    private static void valuesOfLevels() {
        Case.value("int f(){return 1||0&&0;}", 1);
        Case.value("int f(){return 0&&0|1;}", 0);
        Case.value("int f(){return 1|1^1;}", 1);
        Case.value("int f(){return 4^5&1;}", 5);
        Case.value("int f(){return 2&2==2;}", 0);
        Case.value("int f(){return 2==2<3;}", 0);
        Case.value("int f(){return 1<2<<3;}", 1);
        Case.value("int f(){return 1<<2+3;}", 32);
        Case.value("int f(){return 1+2*3;}", 7);
        Case.value("int f(){return 20-5-3;}", 12);
        Case.value("int f(){return 100/5/2;}", 10);
        Case.value("int f(){return 100/5*2;}", 40);
        Case.value("int f(){return 17%5*2;}", 4);
        Case.value("int f(){return 1<<3>>1;}", 4);
        Case.value("int f(){return 3>2>1;}", 0);
        Case.value("int f(){return 2!=2==0;}", 1);
        Case.value("int f(){return -2*3+~1;}", -8);
        Case.value("int f(int a){return a?1:0?2:3;}", 1, 0, 1);
        Case.value("int f(int a){int b;int c;a=b=c=7;return a+b+c;}", 21);
        Case.value("int f(){return !0+1;}", 2);
        Case.value("int f(){return (char)300+1;}", 45);
        Case.value("int f(){return 5-(2-1);}", 4);
    }

    private static String body(String statements) {
        return Case.code(Case.made("void f(int a,int b){" + statements + "}"), 0, 2);
    }

    private static void same(String one, String other) {
        Case.is(one + " is " + other, body(one), body(other));
    }

    /** An else belongs to the nearest if that has none; a statement may be any one. */
    private static void statements() {
        same("if(a)if(b)a;else b;", "if(a){if(b)a;else b;}");
        same("if(a)if(b)a;else b;else a;", "if(a){if(b)a;else b;}else a;");
        same("if(a)while(b)if(a)b;else a;", "if(a){while(b){if(a)b;else a;}}");
        same("if(a)for(;b;)if(a)b;else;else a;", "if(a){for(;b;)if(a)b;else;}else a;");
        same("if(a)do if(b)a;else b;while(a);else b;", "if(a){do{if(b)a;else b;}while(a);}else b;");
        same("if(a)switch(b){case 1:if(a)b;else a;}else b;", "if(a){switch(b){case 1:if(a)b;else a;}}else b;");
        same("if(a);else if(b)a;else b;", "if(a);else{if(b)a;else b;}");
        same("while(a)while(b)a;", "while(a){while(b){a;}}");
        same("do do a;while(b);while(a);", "do{do{a;}while(b);}while(a);");
        same("for(;;)break;a;", "for(;;){break;}a;");
        same("{{a;}}b;", "a;b;");
        same(";;;", "");
        Case.is("an if without an else", body("if(a)b;").equals(body("if(a)b;else;")), false);
        Case.faultAt(1, "void f(int a){if(a)a;else a;@else a;}");
        Case.faultAt(1, "void f(int a){@else a;}");
        Case.faultAt(1, "void f(int a){while(a)a;@else a;}");
        Case.faultAt(1, "void f(int a){do a;@a;while(a);}");
        Case.faultAt(1, "void f(int a){do while(a);@}");
        Case.good("void f(int a){do while(a);while(a);}");
        Case.good("void f(int a){do;while(a);}");
        Case.good("void f(int a){while(a);while(a);}");
    }
}
