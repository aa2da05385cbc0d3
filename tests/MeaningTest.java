/** Promises 8 to 10: texts worked out by their meaning, and, beside it, by their modules. */
public final class MeaningTest {
    public static void main(String[] args) {
        numbers();
        longs();
        chars();
        pointers();
        assignments();
        tests();
        statements();
        switches();
        calls();
        functionPointers();
        frames();
        traps();
        bounds();
        told();
        wrongArguments();
        Case.end();
    }

    private static void numbers() {
        Case.value("int f(){return 2+3*4-10/3%2;}", 13);
        Case.value("int f(){return -7/2*10+-7%3;}", -31);
        Case.value("int f(){return 2147483647+1;}", Integer.MIN_VALUE);
        Case.value("int f(){return 65536*65536;}", 0);
        Case.value("int f(){return 1<<33;}", 2);
        Case.value("int f(){return -9>>1;}", -5);
        Case.value("int f(){return 1<<-1;}", Integer.MIN_VALUE);
        Case.value("int f(){return 6&3|8^12;}", 6);
        Case.value("int f(){return ~5+!5+!0;}", -5);
        Case.value("int f(){return (1<2)+(2<=2)*2+(3>2)*4+(2>=3)*8+(1==1)*16+(1!=1)*32;}", 23);
        Case.value("int f(int a,int b){return a-b-1;}", 5, 9, -5);
        Case.value("int f(int a){return a;}", 4294967297L, 0, 1);
        Case.value("int f(int a){return a%-1;}", Integer.MIN_VALUE, 0, 0);
        Case.value("int f(){return sizeof(int)+sizeof(char)*10+sizeof(long)*100+sizeof(long**)*1000;}", 4814);
        Case.value("int f(){return '\\n'+'\\0'+'a';}", 107);
        Case.value("int f(){}", 0);
        Case.value("void f(){return;}", 0);
    }

    private static void longs() {
        Case.value("long f(){return 2147483647+1L;}", 2147483648L);
        Case.value("long f(){return 2147483647+1;}", Integer.MIN_VALUE);
        Case.value("long f(long a){return a*a;}", 3000000000L, 0, 9000000000000000000L);
        Case.value("long f(long a){return a>>40;}", -1L << 45, 0, -32);
        Case.value("long f(long a){return a<<65;}", 3, 0, 6);
        Case.value("int f(long a){return 1<<a;}", 32, 0, 1);
        Case.value("long f(long a){return a%-1;}", Long.MIN_VALUE, 0, 0);
        Case.value("int f(long a){return a;}", 4294967299L, 0, 3);
        Case.value("int f(long a){return a>2147483647;}", 4294967296L, 0, 1);
        Case.value("int f(long a){return !a+(a?10:20);}", 4294967296L, 0, 10);
        Case.value("int f(long a){if(a)return 1;return 2;}", 4294967296L, 0, 1);
        Case.value("int f(long a){int n=0;while(a){a=a>>1;n++;}return n;}", 4294967296L, 0, 33);
        Case.value("int f(long a){return a&&4294967296L||0;}", 4294967296L, 0, 1);
        Case.value("long f(){return 1?1:2L;}", 1);
        Case.value("long f(){return -1&4294967295L;}", 4294967295L);
        Case.value("long f(){return ~0L<0;}", 1);
        Case.value("long f(){return -(2147483647+1);}", Integer.MIN_VALUE);
        Case.value("long g;long f(){g=123456789012345678L;return g++ + g--;}", 246913578024691357L);
    }

    private static void chars() {
        Case.value("int f(char a){return a;}", 300, 0, 44);
        Case.value("int f(char a){return a=-1;}", 0, 0, 255);
        Case.value("int f(char a){return ++a;}", 255, 0, 0);
        Case.value("int f(char a){return a--*1000+a;}", 0, 0, 255);
        Case.value("char f(){return 511;}", 255);
        Case.value("int f(){return (char)1000L+(char)-1;}", 487);
        Case.value("int f(char a){return -a;}", 5, 0, -5);
        Case.value("int f(char a){a+=1000;return a;}", 5, 0, 237);
        Case.value("int f(char a){return a<<8;}", 255, 0, 65280);
        Case.value("char a[3]={255,256,-1};int f(){return a[0]+a[1]+a[2];}", 510);
        Case.value("char f(int a){return a;}int g;", 777, 0, 9);
    }

    private static void pointers() {
        Case.value("int a[5]={1,2,3,4,5};int f(){int*p=a;p=p+2;return *p*10+p[-1]+*(1+p);}", 36);
        Case.value("long a[5];int f(){return &a[4]-&a[1]+(a-&a[3])*10;}", -27);
        Case.value("char a[5];int f(){return &a[4]-a;}", 4);
        Case.value("int f(){return (int*)7-(int*)0+((int*)0-(int*)7)*10;}", -9);
        Case.value("int f(){return (int)((int*)0-1)+(int)((long*)0+2);}", 12);
        Case.value("int f(){return ((int*)-1>(int*)1)+((char*)1<(char*)-2)*2+((int*)-1<(int*)0)*4;}", 3);
        Case.value("int f(){int a=5;int*p=&a;int**q=&p;**q=7;return a;}", 7);
        Case.value("int f(){int a=5;int*p=&a;*p++=6;return a*100+(p-&a);}", 601);
        Case.value("char*s=\"abc\";int f(){return s[0]+*(s+2)+\"xyz\"[1];}", 317);
        Case.value("int f(){int*p=0;return p==0&&!p&&0==p;}", 1);
        Case.value("int f(){return *(int*)0;}", 0);
        Case.value("long f(){return (long)(int*)-1;}", -1);
        Case.value("int f(){return (int)(int*)4294967298L;}", 2);
        Case.value("int a[3];int f(){a[1]=5;return *&a[1]+*&*&a[1];}", 10);
        Case.value("int f(){int a[2];int*p=a;return p==a&&p==&a[0]&&&a[1]>p;}", 1);
        Case.value("int a;int f(){int*p=&a;p+=3;p-=1;--p;p++;return p-&a;}", 2);
        Case.value("int f(){char*p=(char*)16;return (int)(p+=5)+(int)p--+(int)++p;}", 63);
    }

    private static void assignments() {
        Case.value("int f(int a){int b;return b=a=a+1;}", 4, 0, 5);
        Case.value("int f(int a){return a+(a=10)+a;}", 1, 0, 21);
        Case.value("int f(int a){a+=(a=10);return a;}", 1, 0, 11);
        Case.value("int g;int f(int a){g=1;g+=(g=10);return g;}", 1, 0, 11);
        Case.value("int a[3]={1,2,3};int i;int f(){a[i]=i=2;return a[0]*100+a[2];}", 203);
        Case.value("int a[3]={1,2,3};int i;int f(){a[i++]+=i++;return a[0]*10+i;}", 22);
        Case.value("int a[3];int f(){int*p=a;*p++=5;*p=6;return a[0]*10+a[1];}", 56);
        Case.value("int f(int a){return a++*100+a--*10+a;}", 1, 0, 121);
        Case.value("int f(int a){return ++a*100+--a*10+a;}", 1, 0, 211);
        Case.value("int f(int a){a+=1;a-=5;a*=6;a/=5;a%=7;a|=9;a&=27;a^=2;a<<=3;a>>=1;return a;}", 20, 0, 44);
        Case.value("int f(int a){a+=4294967296L;return a;}", 7, 0, 7);
        Case.value("int f(int a){a/=4294967296L;return a;}", 7, 0, 0);
        Case.value("int f(int a){a*=4294967297L;return a;}", 7, 0, 7);
        Case.value("int f(int a){a<<=33L;return a;}", 7, 0, 14);
        Case.value("long f(long a){a<<=33;return a;}", 1, 0, 8589934592L);
        Case.value("int f(){int x=3;int y=&x!=0;x*=y+1;return x++ + ++x;}", 14);
        Case.value("int f(int a){int x=a;{int x=x+1;a=x;}return a;}", 5, 0, 1);
    }

    private static void tests() {
        Case.value("int f(){int n=0;0&&n++;1||n++;1&&n++;0||n++;return n;}", 2);
        Case.value("int f(){return (5&&3)+(0||7)*2+(0&&1/0)*4;}", 3);
        Case.value("int f(int a){return a?a>1?3:2:1;}", 2, 0, 3);
        Case.value("int f(int a){return a?a>1?3:2:1;}", 0, 0, 1);
        Case.value("int f(int a){int b=0;a?b++:b--;return b;}", 0, 0, -1);
    }

    private static void statements() {
        Case.value("int f(int n){int s=0;while(n)s+=n--;return s;}", 10, 0, 55);
        Case.value("int f(int n){int s=0;do s+=n;while(--n>0);return s;}", 0, 0, 0);
        Case.value("int f(int n){int s=0;do{if(n==3)continue;s+=n;}while(--n>0);return s;}", 5, 0, 12);
        Case.value("int f(int n){int s=0;for(;;){if(n==0)break;s+=n;n--;}return s;}", 4, 0, 10);
        Case.value("int f(int n){int s=0;int i;for(i=0;i<n;i++){if(i%2)continue;s+=i;}return s*100+i;}", 7, 0, 1207);
        Case.value("int f(int n){int s=0;int i=0;while(i<n){i++;if(i==3)continue;if(i==6)break;s+=i;}return s;}", 9, 0, 12);
        Case.value("int f(){int s=0;int i;int j;for(i=0;i<3;i++)for(j=0;j<3;j++){if(j>i)break;s++;}return s;}", 6);
        Case.value("int f(int n){if(n)if(n>1)return 2;else return 1;return 0;}", 0, 0, 0);
        Case.value("int f(int n){if(n)if(n>1)return 2;else return 1;return 0;}", 1, 0, 1);
        // A local is done where it stands, and it keeps its number else.
        Case.value("int f(){int i;int s=0;for(i=0;i<3;i++){int x;x++;s=s*10+x;}return s;}", 123);
        Case.value("int f(){int i;int s=0;for(i=0;i<3;i++){int x=5;x++;s=s*10+x;}return s;}", 666);
    }

    private static void switches() {
        String text = "int f(int n){int s=0;switch(n){case 1:s+=1;case 2:s+=10;break;default:s+=100;case -3:s+=1000;}return s;}";
        Case.value(text, 1, 0, 11);
        Case.value(text, 2, 0, 10);
        Case.value(text, -3, 0, 1000);
        Case.value(text, 7, 0, 1100);
        Case.value("int f(int n){switch(n){case 5:return 1;}return 2;}", 6, 0, 2);
        Case.value("int f(int n){switch(n){}return n;}", 6, 0, 6);
        String far = "int f(int n){switch(n){case -2147483647:return 1;case 2147483647:return 2;case 0:return 3;}return 4;}";
        Case.value(far, 2147483647, 0, 2);
        Case.value(far, -2147483647, 0, 1);
        Case.value(far, Integer.MIN_VALUE, 0, 4);
        Case.value("int f(int n){int i;int s=0;for(i=0;i<5;i++)switch(i){case 2:continue;case 3:break;default:s+=i;}return s;}", 5);
        Case.value("int f(int n){switch(n){default:switch(n+1){case 1:return 5;}return 6;case 2:return 7;}}", 0, 0, 5);
        Case.value("int f(int n){switch(n){case 1:int a=5;case 2:return a;}return 9;}", 2, 0, 0);
    }

    private static void calls() {
        Codekiln x = Case.loaded("int f(int n){return n<2?n:f(n-1)+f(n-2);}int g(char a,long b){return a+b;}"
            + "int h(){return g(257,1L)+g(-1,2147483647);}void v(int a){put(a);put(get());put(get());}int w(){v(7);return 3;}");
        Case.is("f(10)", x.mean(0, 0, 10, 0, 0), 0);
        Case.is("value", x.meant(0), 55);
        Case.is("TICKS", x.meant(1), 177);
        Case.is("the most calls", x.meant(2), 10);
        Case.is("h()", x.mean(0, 2, 0, 0, 0), 0);
        Case.is("value of h", x.meant(0), -2147483648L + 254 + 2);
        x.feed(9);
        Case.is("w()", x.mean(0, 4, 0, 0, 0), 0);
        Case.is("value of w", x.meant(0), 3);
        Case.is("TICKS of w", x.meant(1), 7);
        Case.is("the most calls of w", x.meant(2), 2);
        Case.is("puts", x.meant(3), 3);
        Case.is("their sum", x.meant(4), ((17 * 31 + 7) * 31 + 9) * 31 - 1);
        Case.is("out(0)", x.out(0), 7);
        Case.is("out(1)", x.out(1), 9);
        Case.is("out(2)", x.out(2), -1);
        Case.noElement("out(3)", () -> x.out(3));
        Case.noElement("out(-1)", () -> x.out(-1));
        Case.is("agree", x.agree(0, 4, 127, 0, 0, 0), 1);
        // Exps of a call from the left to the right, ahead of the call.
        Codekiln y = Case.loaded("int n;int h(int a){n=n*10+a;return n;}int g(int a,int b){return a*1000+b;}"
            + "int f(){return g(h(1),h(2))+h(3);}int*k(int*p){return p+1;}");
        Case.is("f()", y.mean(0, 2, 0, 0, 0), 0);
        Case.is("value of f", y.meant(0), 1000 + 12 + 123);
        Case.noState("a function with a pointer", () -> y.mean(0, 3, 0, 0, 0));
    }

    private static void functionPointers() {
        String text = "int(*g)();int f(int n){*(int*)16=n;return g();}int h(){return 7;}long k(){return 8;}"
            + "int m(int a){return a;}void v(){}char c(){return 456;}";
        Case.value(text, 2, 0, 7);
        Case.value(text, 6, 0, 200);
        for (int n : new int[] {0, 1, 3, 4, 5, 7, -1, 258}) {
            Case.ends(text, n, 3);
        }
        // The call converts by the types that it knows, not by those of the function.
        Case.value("int(*g)(int);int f(int n){*(int*)16=2;return g(n);}int h(char c){return c;}", 300, 0, 300);
        Case.value("int(*g)(int);int f(int n){*(int*)16=2;return g(n);}int h(char c){&c;return c;}", 300, 0, 44);
        // The variable is read behind the exps.
        Case.value("int f();int h(int a){return a+1;}int k(int a){return a+10;}int(*g)(int)=h;"
            + "int f(){return g((g=k)==k);}", 11);
        Codekiln x = Case.loaded("int a(int x){return x+1;}int b(int x){return x*2;}int(*g)(int)=a;"
            + "int f(int n){int(*h)(int)=n?b:g;int(*k)(int)=0;k=h;g=b;return g(k(10))*100+(g==b)+(h==a)*2+(a!=0)*4;}");
        x.mean(0, 2, 0, 0, 0);
        Case.is("f(0)", x.meant(0), 2207);
        x.mean(0, 2, 1, 0, 0);
        Case.is("f(1)", x.meant(0), 4005);
        Case.is("agree", x.agree(0, 2, 127, 0, 0, 0), 1);
    }

    private static void frames() {
        Codekiln x = Case.loaded("int f(int a){int b[2];b[a]=1;return b[0];}");
        Case.is("f(0)", x.mean(0, 0, 0, 0, 0), 0);
        Case.is("TOP", x.meant(6), 4096);
        Case.is("what lies there is left", x.meantByte(4088), 1);
        Case.is("f(2)", x.mean(0, 0, 2, 0, 0), 2);
        Case.is("TOP as it was", x.meant(6), 4088);
        Case.is("MEMORY is as it was first", x.meantByte(4088), 0);
        Case.value("int f(int a);int g(int a){int b[2];if(a)b[1]=a;return b[1];}"
            + "int f(int a){g(a);return g(0);}", 5, 0, 5);
        Case.value("int f(int a,char b){&a;&b;return *(char*)4092*1000+*(int*)4088;}", 7, 258, 2007);
        // A frame may lie beyond MEMORY; what its NAMES tell does not go round, what arrays and & give does.
        String array = "int f(int n){long a[200];if(n)return f(n-1);a[88]=5;return *(int*)0;}";
        Case.value(array, 2, 0, 5);
        String placed = "int f(int n){long a[199];int b;&b;if(n)return f(n-1);b=5;return b;}";
        Case.value(placed, 1, 0, 5);
        Case.ends(placed, 2, 2);
        Codekiln y = Case.loaded(placed);
        y.mean(0, 0, 2, 0, 0);
        Case.is("TOP", y.meant(6), -704);
        Case.ends("int f(int n){long a[199];&n;if(n)return f(n-1);return 0;}", 2, 2);
    }

    private static void traps() {
        Case.ends("int f(int a){return 1/a;}", 0, 1);
        Case.ends("int f(int a){return 1%a;}", 0, 1);
        Case.ends("int f(int a){return a/-1;}", Integer.MIN_VALUE, 1);
        Case.ends("long f(long a){return a/-1;}", Long.MIN_VALUE, 1);
        Case.ends("long f(long a){return 5%a;}", 0, 1);
        Case.ends("int f(int a){a/=0;return a;}", 5, 1);
        Case.ends("int f(int a){return *(int*)a;}", 4093, 2);
        Case.ends("int f(int a){return *(int*)a;}", -1, 2);
        Case.ends("long f(int a){return *(long*)a;}", 4089, 2);
        Case.ends("int f(int a){return *(char*)a;}", 4096, 2);
        Case.value("int f(int a){return *(char*)a;}", 4095, 0, 0);
        Case.value("int f(int a){return *(int*)a;}", 4092, 0, 0);
        Codekiln x = Case.loaded("int f(int a){put(1);*(int*)a=-1;put(2);return 5;}");
        Case.is("store beyond MEMORY", x.mean(0, 0, 4094, 0, 0), 2);
        Case.is("nothing is written", x.meantByte(4094), 0);
        Case.is("no value", x.meant(0), 0);
        Case.is("what was put ahead", x.meant(3), 1);
        // The right side comes ahead of the write, and the old value ahead of that.
        Codekiln y = Case.loaded("int f(int a){*(int*)a=get();return 0;}int g(int a){*(int*)a+=get();return 0;}");
        Case.is("f", y.mean(0, 0, 5000, 0, 0), 2);
        Case.is("TICKS of f", y.meant(1), 2);
        Case.is("g", y.mean(0, 1, 5000, 0, 0), 2);
        Case.is("TICKS of g", y.meant(1), 1);
    }

    private static void bounds() {
        bound("int f(int n){while(n--);return 5;}", 2998, 3000);
        bound("int f(int n){do;while(--n);return 5;}", 2999, 3000);
        bound("int f(int n){for(;;){if(n--==0)break;}return 5;}", 2998, 3000);
        bound("int f(int n){int i;for(i=0;i<n;i++);return 5;}", 2998, 3000);
        bound("int f(int n){while(n--)get();return 5;}", 1499, 3000);
        bound("int f(int n){if(n<=1)return 5;return f(n-1);}", 24, 24);
        Codekiln x = Case.loaded("int f(int n){if(n<=1)return get();return f(n-1);}int g(){while(1);}");
        Case.is("24 calls", x.mean(0, 0, 24, 0, 0), 0);
        Case.is("TICKS", x.meant(1), 25);
        Case.is("the most calls", x.meant(2), 24);
        Case.is("25 calls", x.mean(0, 0, 25, 0, 0), 4);
        Case.is("its TICK counts", x.meant(1), 25);
        Case.is("the most calls", x.meant(2), 24);
        Case.is("no end", x.mean(0, 1, 0, 0, 0), 4);
        Case.is("TICKS", x.meant(1), 3000);
        Case.is("agree", x.agree(0, 1, 0, 0, 0, 0), 2);
    }

    private static void bound(String text, int most, int ticks) {
        Codekiln x = Case.loaded(text);
        Case.is("end of " + text, x.mean(0, 0, most, 0, 0), 0);
        Case.is("value of " + text, x.meant(0), 5);
        Case.is("TICKS of " + text, x.meant(1), ticks);
        Case.is("end beyond it of " + text, x.mean(0, 0, most + 1, 0, 0), 4);
    }

    private static void told() {
        Codekiln x = Case.loaded("char a[2]={1,2};void f(int n){while(n--)put(n);a[1]=9;}int g(){return get();}");
        x.mean(0, 0, 150, 0, 0);
        Case.is("puts", x.meant(3), 150);
        Case.is("out(99)", x.out(99), 50);
        Case.noElement("out(100)", () -> x.out(100));
        int sum = 17;
        for (int n = 149; n >= 0; n--) {
            sum = sum * 31 + n;
        }
        Case.is("their sum", x.meant(4), sum);
        int memory = 17;
        for (int k = 0; k < 4096; k++) {
            memory = memory * 31 + (k == 16 ? 1 : k == 17 ? 9 : 0);
            Case.is("meantByte(" + k + ")", x.meantByte(k), k == 16 ? 1 : k == 17 ? 9 : 0);
        }
        Case.is("sum of MEMORY", x.meant(5), memory);
        Case.is("value of void", x.meant(0), 0);
        x.feed(5);
        x.agree(0, 1, 0, 0, 0, 0);
        Case.is("agree() is no mean()", x.meant(3), 150);
        x.mean(0, 1, 0, 0, 0);
        Case.is("the first number of the INPUT", x.meant(0), 5);
        x.mean(0, 1, 0, 0, 0);
        Case.is("the first number again", x.meant(0), 5);
        Case.is("sum of nothing put", x.meant(4), 17);
        Case.noElement("out(0)", () -> x.out(0));
        x.clearInput();
        x.mean(0, 1, 0, 0, 0);
        Case.is("behind the last one", x.meant(0), -1);
    }

    private static void wrongArguments() {
        Codekiln x = Case.loaded("int f(int a,int b,int c,int d){return 1;}int g(int*a){return 1;}int h(char a){return a;}");
        Case.noIndex("mean(1, 0)", () -> x.mean(1, 0, 0, 0, 0));
        Case.noIndex("mean(-1, 0)", () -> x.mean(-1, 0, 0, 0, 0));
        Case.noIndex("mean(0, 3)", () -> x.mean(0, 3, 0, 0, 0));
        Case.noIndex("mean(0, -1)", () -> x.mean(0, -1, 0, 0, 0));
        Case.noState("mean of 4 parameters", () -> x.mean(0, 0, 0, 0, 0));
        Case.noState("mean of a pointer", () -> x.mean(0, 1, 0, 0, 0));
        Case.is("state as it was", x.meant(6), 0);
        x.mean(0, 2, 511, 0, 0);
        Case.is("h(511)", x.meant(0), 255);
        Case.noArgument("meant(7)", () -> x.meant(7));
        Case.noArgument("meant(-1)", () -> x.meant(-1));
        Case.noArgument("meantByte(4096)", () -> x.meantByte(4096));
        Case.noArgument("meantByte(-1)", () -> x.meantByte(-1));
    }
}
