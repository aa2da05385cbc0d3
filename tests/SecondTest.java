/** Promises 25 to 27: second ways, and sums. */
public final class SecondTest {
    private static final String[] TEXTS = {
        "int a[8]={5,3,8,1,9,2,7,4};int f(int n){int i;int j;for(i=0;i<n;i++)for(j=0;j+1<n-i;j++)if(a[j]>a[j+1])"
            + "{int t=a[j];a[j]=a[j+1];a[j+1]=t;}for(i=0;i<n;i++)put(a[i]);return a[n-1];}",
        "char s[20]=\"kiln\";int l(char*p){int n=0;while(*p++)n++;return n;}int f(int k){int i=l(s);int j=0;char t;"
            + "while(j<--i){t=s[j];s[j++]=s[i];s[i]=t;}for(i=0;s[i];i++)put(s[i]+k);return l(s);}",
        "int i(int x){return x+1;}int d(int x){return x*2;}int m(int(*f)(int),int n,int x){while(n--)x=f(x);return x;}"
            + "int f(int k){return m(k&1?i:d,k,3);}",
        "long f(long a,int b){long r=1L;int c[3];c[0]=b;int*p=c;while(*p){if(*p&1)r*=a;a*=a;*p>>=1;}return r;}",
        "int f(int n){int s=0;do switch(n&3){case 0:continue;case 1:s++;case 2:s+=10;break;default:s^=n;}while(n-->0);return s;}",
        "int f(int n){return n?n%3?f(n-1)+1:f(n/2)*2:1/n;}",
        "int f(int n){int a[2];int*p=a;p=p+n;*p=5;return a[0]+a[1];}",
        "int f(int n){while(n)n=n+1;return 1/n+get();}",
    };

    public static void main(String[] args) {
        everyPass();
        bounds();
        wrongArguments();
        steadyAndErrors();
        shortOnes();
        nothingIsKept();
        Case.end();
    }

    private static void everyPass() {
        for (String text : TEXTS) {
            Codekiln x = Case.made(text);
            x.feed(4);
            int f = x.programIs(0, 0) - 1;
            for (int k = 0; k < 9; k++) {
                int bits = k < 7 ? 1 << k : k == 7 ? 127 : 0;
                for (int a = -1; a < 7; a++) {
                    int agree = x.agree(0, f, bits, a, a, 0);
                    int alike = x.alike(0, f, bits, a, a, 0);
                    int due = x.mean(0, f, a, a, 0) == 4 ? 2 : 1;
                    Case.is("agree by " + bits + " of " + text, agree, due);
                    Case.is("alike by " + bits + " of " + text, alike == 1 || due == 2 && alike == 2, true);
                }
            }
            Case.is("errors", x.errors(), 0);
        }
    }

    private static void bounds() {
        Codekiln x = Case.made("int f(int n){while(n);return 1;}int g(int n){return n?g(n-1):5;}int h(int n){int s=0;"
            + "while(n--)s=s*5+n*3-s/7+n%5;return s;}");
        Case.is("BOUND", x.agree(0, 0, 0, 1, 0, 0), 2);
        Case.is("steps", x.alike(0, 0, 0, 1, 0, 0), 2);
        Case.is("no bound", x.agree(0, 0, 0, 0, 0, 0), 1);
        Case.is("24 calls", x.agree(0, 1, 0, 23, 0, 0), 1);
        Case.is("25 calls", x.agree(0, 1, 0, 24, 0, 0), 2);
        Case.is("60 frames", x.alike(0, 1, 0, 59, 0, 0), 1);
        Case.is("61 frames", x.alike(0, 1, 0, 60, 0, 0), 2);
        Case.is("steps of agree", x.agree(0, 2, 0, 2000, 0, 0), 2);
        Case.is("fewer steps", x.agree(0, 2, 0, 1000, 0, 0), 1);
    }

    private static void wrongArguments() {
        Codekiln x = Case.made("int f(int a,int b,int c,int d){return a;}int g(int*p){return 1;}int h(int a){return a;}");
        Case.noIndex("agree(1, 0)", () -> x.agree(1, 0, 999, 0, 0, 0));
        Case.noIndex("agree(-1, 0)", () -> x.agree(-1, 0, 0, 0, 0, 0));
        Case.noIndex("agree(0, 3)", () -> x.agree(0, 3, 999, 0, 0, 0));
        Case.noIndex("agree(0, -1)", () -> x.agree(0, -1, 0, 0, 0, 0));
        Case.noState("agree of 4 parameters", () -> x.agree(0, 0, 999, 0, 0, 0));
        Case.noState("agree of a pointer", () -> x.agree(0, 1, 999, 0, 0, 0));
        Case.noArgument("agree by 128", () -> x.agree(0, 2, 128, 0, 0, 0));
        Case.noArgument("agree by -1", () -> x.agree(0, 2, -1, 0, 0, 0));
        Case.noIndex("alike(1, 0)", () -> x.alike(1, 0, 999, 0, 0, 0));
        Case.noIndex("alike(-1, 0)", () -> x.alike(-1, 0, 0, 0, 0, 0));
        Case.noIndex("alike(0, 3)", () -> x.alike(0, 3, 999, 0, 0, 0));
        Case.noIndex("alike(0, -1)", () -> x.alike(0, -1, 0, 0, 0, 0));
        Case.noState("alike of 4 parameters", () -> x.alike(0, 0, 999, 0, 0, 0));
        Case.noState("alike of a pointer", () -> x.alike(0, 1, 999, 0, 0, 0));
        Case.noArgument("alike by 128", () -> x.alike(0, 2, 128, 0, 0, 0));
        Case.noArgument("alike by -1", () -> x.alike(0, 2, -1, 0, 0, 0));
    }

    private static void steadyAndErrors() {
        for (String text : TEXTS) {
            Codekiln x = Case.made(text);
            for (int k = 0; k < 7; k++) {
                Case.is("isSteady", x.isSteady(0, k), true);
                int once = x.pass(0, k);
                Case.is("a pass done once more", x.same(once, x.pass(once, k)), true);
                x.write(once);
                int read = x.read();
                Case.is("written and read", read >= 0 && x.same(once, read), true);
                x.begin(once, x.moduleIs(once, 5) - 1, 1, 1, 1);
                x.step(0, 500);
                Case.is("errors", x.errors(), 0);
                x.clearModules();
                x.make(0);
            }
        }
    }

    private static void shortOnes() {
        Codekiln x = Case.made("int f(int a){int b=a;b;return b*4;}");
        x.passes(0, 127);
        float due = (float) x.moduleIs(1, 12) / (float) x.moduleIs(0, 12);
        Case.is("shortness(1, 0)", x.shortness(1, 0) == due, true);
        Case.is("shorter", due < 1.0f, true);
        Case.is("shortness(0, 0)", x.shortness(0, 0) == 1.0f, true);
        Case.noIndex("shortness(2, 0)", () -> x.shortness(2, 0));
        Case.noIndex("shortness(0, 2)", () -> x.shortness(0, 2));
        Case.noIndex("shortness(-1, 0)", () -> x.shortness(-1, 0));
        Codekiln y = Case.made("");
        Case.is("shortness of nothing", y.shortness(0, 0) == 0.0f, true);
        Case.is("meanSteps without runs", x.meanSteps() == 0.0, true);
        x.begin(0, 0, 1, 0, 0);
        Case.is("meanSteps ahead of any step", x.meanSteps() == 0.0, true);
        x.begin(0, 0, 1, 0, 0);
        x.step(0, 3);
        x.step(1, 4);
        Case.is("meanSteps", x.meanSteps() == 3.5, true);
        Case.is("checksum of nothing", x.checksum(), 17);
        x.write(0);
        int sum = 17;
        for (int k = 0; x.byteAt(k) >= 0; k++) {
            sum = sum * 31 + x.byteAt(k);
        }
        Case.is("checksum", x.checksum(), sum);
    }

    private static void nothingIsKept() {
        Codekiln x = Case.made("int f(int a){put(a);return a+get();}");
        x.feed(7);
        x.mean(0, 0, 3, 0, 0);
        x.begin(0, 0, 3, 0, 0);
        x.write(0);
        int sum = x.checksum();
        x.agree(0, 0, 127, 4, 0, 0);
        x.alike(0, 0, 127, 5, 0, 0);
        x.isSteady(0, 0);
        x.errors();
        Case.is("the latest mean()", x.meant(0), 10);
        Case.is("out(0)", x.out(0), 3);
        Case.is("the run", x.runAt(0, 1), 0);
        Case.is("its local", x.localAt(0, 0, 0), 3);
        Case.noIndex("another module", () -> x.moduleIs(1, 0));
        Case.noIndex("another run", () -> x.runAt(1, 0));
        Case.is("the BYTES", x.checksum(), sum);
        Case.is("the fault", x.fault(true), 0);
    }
}
