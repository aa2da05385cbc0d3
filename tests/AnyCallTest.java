import java.util.NoSuchElementException;
import java.util.Random;

/**
 * Runs of 512 calls on one kiln, each call with arguments inside and outside of its range, over texts and bytes that are
 * whole or broken: a call answers, or throws what the document lists for it and nothing else; what is always so is so.
 */
public final class AnyCallTest {
    private static final int RUNS = 250;
    private static final int CALLS = 512;
    private static final String[] PARTS = {"int ", "char ", "long ", "void ", "a", "b", "f", "g", "p", "(", ")", "{", "}", "[", "]", ";", ",", "=",
        "+", "-", "*", "/", "%", "&", "|", "^", "<<", ">>", "<", ">=", "==", "!=", "&&", "||", "?", ":", "!", "~", "++", "--", "+=", ">>=", "if(",
        "else ", "while(", "do ", "for(", "switch(", "case ", "default:", "break;", "continue;", "return ", "sizeof(", "1", "0", "255", "7L", "'a'",
        "\"xy\"", "get()", "put(1);", "int*", "(*h)(int)", " ", "\n", "@", "2147483648"};
    private static final String[] TEXTS = {"int f(int a,int b){int c[3];c[a&1]=b;return c[0]+c[1]/a;}",
        "char g(long a,char b){char c=b;&c;while(a-->0)c+=b;switch(c){case 1:case 9:return 2;default:put(c);}return c;}",
        "int h(int n);int(*p)(int)=h;int h(int n){return n>0?p(n-1)+1:get();}",
        "long v[4]={1,2,3};char*s=\"text\";long k(int i){long*q=v+i;*q++=i;return *q+s[i&3];}",
        "void l(int n){do{put(n);if(n==3)continue;n--;}while(n>0);}int m(){l(4);l(2);return 1;}"};

    private final Random random;
    private final Codekiln x = new Codekiln();
    private int programs;
    private int modules;
    private int runs;

    private AnyCallTest(int seed) {
        random = new Random(seed);
    }

    public static void main(String[] args) {
        for (int seed = 0; seed < RUNS; seed++) {
            AnyCallTest one = new AnyCallTest(seed);
            for (int k = 0; k < CALLS; k++) {
                one.call(seed + "/" + k);
            }
        }
        Case.end();
    }

    /** Mostly a number that there is, sometimes one at its edge, or far from it. */
    private int number(int count) {
        switch (random.nextInt(10)) {
            case 0:
                return -1;
            case 1:
                return count;
            case 2:
                return random.nextBoolean() ? Integer.MIN_VALUE : Integer.MAX_VALUE;
            default:
                return count > 0 ? random.nextInt(count) : 0;
        }
    }

    private long value() {
        switch (random.nextInt(6)) {
            case 0:
                return random.nextLong();
            case 1:
                return Long.MIN_VALUE;
            case 2:
                return 4096 - random.nextInt(9);
            default:
                return random.nextInt(12) - 3;
        }
    }

    private void call(String what) {
        int which = random.nextInt(100);
        try {
            if (which < 14) {
                text(which);
            } else if (which < 24) {
                programs(which);
            } else if (which < 40) {
                making(which);
            } else if (which < 56) {
                bytes(which);
            } else if (which < 66) {
                modules(which);
            } else if (which < 84) {
                runs(which);
            } else {
                always(what);
            }
        } catch (IndexOutOfBoundsException | IllegalStateException | IllegalArgumentException | NoSuchElementException e) {
            Class<?> is = e.getClass();
            boolean mayBe = is == IndexOutOfBoundsException.class || is == IllegalStateException.class || is == IllegalArgumentException.class
                || is == NoSuchElementException.class;
            Case.is("throws of " + what + " at " + which + ": " + e, mayBe, true);
        }
    }

    private void type(String text) {
        long[] four = new long[4];
        for (int k = 0; k < text.length() && k < 32; k++) {
            four[k / 8] = four[k / 8] << 8 | text.charAt(k) & 255;
        }
        x.type(four[0], four[1], four[2], four[3]);
    }

    private void text(int which) {
        if (which < 3) {
            x.piece(number(8));
        } else if (which < 5) {
            String text = TEXTS[random.nextInt(TEXTS.length)];
            for (int from = 0; from < text.length(); from += 32) {
                type(text.substring(from, Math.min(text.length(), from + 32)));
            }
        } else if (which < 7) {
            type(PARTS[random.nextInt(PARTS.length)] + PARTS[random.nextInt(PARTS.length)]);
        } else if (which == 7) {
            x.clearText();
        } else if (which < 11) {
            Case.is("kind beside place", x.faultKind() == 0, x.faultPlace() == Codekiln.NONE);
            if (x.faultKind() != 0 && random.nextInt(3) > 0) {
                x.clearText();
            }
        } else {
            programs = x.load() + 1;
        }
    }

    private void programs(int which) {
        int p = number(programs);
        switch (which) {
            case 14:
                x.programIs(p, number(4));
                break;
            case 15:
                x.functionIs(p, number(3), number(6));
                break;
            case 16:
                x.variableIs(p, number(2), number(3), number(3));
                break;
            case 17:
                x.globalIs(p, number(2), number(3));
                break;
            case 18:
                x.firstByte(p, number(4096));
                break;
            case 19:
                x.feed((int) value());
                break;
            case 20:
                x.meant(number(7));
                break;
            case 21:
                x.out(number(3));
                break;
            case 22:
                x.meantByte(number(4096));
                break;
            default:
                x.mean(p, number(3), value(), value(), value());
                break;
        }
    }

    private void making(int which) {
        int m = number(modules);
        if (which < 29) {
            modules = x.make(number(programs)) + 1;
        } else if (which < 34) {
            modules = x.pass(m, number(7)) + 1;
        } else if (which < 37) {
            modules = x.passes(m, number(128)) + 1;
        } else if (which == 37 && random.nextInt(4) == 0) {
            x.clearModules();
            modules = 0;
            runs = 0;
        } else {
            Case.is("isSteady", x.isSteady(m, number(7)), true);
        }
    }

    private void bytes(int which) {
        int many = 0;
        if (which < 44) {
            many = x.write(number(modules));
        }
        if (which < 42) {
            for (int k = 0; k < 3; k++) {
                x.setByte(random.nextInt(many), random.nextInt(256));
            }
        } else if (which == 42) {
            x.cutBytes(number(many + 1));
        } else if (which == 45) {
            x.bytes(random.nextLong(), number(9));
        } else if (which == 46) {
            x.byteAt(number(200));
        } else if (which == 47) {
            x.setByte(number(100), number(256));
        } else if (which == 48) {
            x.cutBytes(number(300));
        } else if (which > 48) {
            int read = x.read();
            modules = read == Codekiln.NONE ? modules : read + 1;
            Case.is("read() beside fault()", read == Codekiln.NONE, x.fault(true) != 0);
            Case.is("place beside kind", x.fault(false) == Codekiln.NONE, x.fault(true) == 0);
        }
    }

    private void modules(int which) {
        int m = number(modules);
        switch (which) {
            case 56:
                x.moduleIs(m, number(14));
                break;
            case 57:
                x.functionAt(m, number(4), number(5));
                break;
            case 58:
                x.localSort(m, number(4), number(4));
                break;
            case 59:
                x.opAt(m, 2, number(12), number(2));
                break;
            case 60:
                x.targetAt(m, number(4), number(40), number(4));
                break;
            case 61:
                x.countOf(m, number(256));
                break;
            case 62:
                x.same(m, number(modules));
                break;
            default:
                x.shortness(m, number(modules));
                break;
        }
    }

    private void runs(int which) {
        int r = number(runs);
        if (which < 70) {
            runs = x.begin(number(modules), number(3), value(), value(), value()) + 1;
        } else if (which < 75) {
            x.step(r, number(3) == 0 ? number(40001) : 7);
        } else if (which == 75) {
            runs = x.dropRun(r);
        } else if (which == 76) {
            x.value(r);
        } else if (which == 77) {
            x.outAt(r, number(3));
        } else if (which == 78) {
            x.stackAt(r, number(3));
        } else if (which == 79) {
            x.localAt(r, number(2), number(4));
        } else if (which == 80) {
            x.globalAt(r, number(2));
        } else if (which == 81) {
            x.memoryAt(r, number(4096));
        } else {
            x.runAt(r, number(12));
        }
    }

    private void always(String what) {
        switch (random.nextInt(6)) {
            case 0:
                Case.is("errors() of " + what, x.errors(), 0);
                break;
            case 1:
                Case.is("agree() of " + what, x.agree(number(programs), number(3), number(128), value(), value(), value()) > 0, true);
                break;
            case 2:
                Case.is("alike() of " + what, x.alike(number(modules), number(3), number(128), value(), value(), value()) > 0, true);
                break;
            case 3:
                Case.is("checksum() of nothing", x.byteAt(0) >= 0 || x.checksum() == 17, true);
                break;
            case 4:
                Case.is("meanSteps()", x.meanSteps() >= 0.0, true);
                break;
            default:
                int m = number(modules);
                modules = x.pass(m, number(7)) + 1;
                Case.is("a pass keeps the functions of " + what, x.moduleIs(m, 2), x.moduleIs(modules - 1, 2));
                break;
        }
    }
}
