import com.sun.management.ThreadMXBean;
import java.lang.management.ManagementFactory;
import java.util.ArrayList;

/** All calls of one run live in one room: what they make anew is counted, for what swells most. */
public final class RoomTest {
    /** As many fields and elements as the room has, the least of them (but bytes) of four bytes. */
    private static final long ROOM = 7_300_000L * 4;
    private static final ThreadMXBean THREADS = (ThreadMXBean) ManagementFactory.getThreadMXBean();

    public static void main(String[] args) {
        piecesAgain();
        swollenModules();
        swollenRows();
        Case.end();
    }

    private static long made() {
        return THREADS.getThreadAllocatedBytes(Thread.currentThread().getId());
    }

    private static void fits(String what, long from, long most) {
        long bytes = made() - from;
        Case.is(what + ": " + bytes + " bytes made, at most " + most, bytes <= most, true);
    }

    /** What is asked again makes hardly anything anew. */
    private static void piecesAgain() {
        Codekiln x = new Codekiln();
        for (int k = 0; k < 6; k++) {
            x.piece(k);
            x.load();
            x.make(k);
            x.passes(k, 127);
        }
        everyWay(x);
        long from = made();
        for (int k = 0; k < 10; k++) {
            everyWay(x);
        }
        fits("pieces asked again", from, 200_000);
    }

    private static void everyWay(Codekiln x) {
        for (int k = 0; k < 6; k++) {
            int f = k == 3 ? 1 : k == 4 ? 2 : 0;
            x.mean(k, f, 7, 3, 0);
            x.agree(k, f, 127, 7, 3, 0);
            x.alike(2 * k, f, 127, 7, 3, 0);
            x.isSteady(2 * k, k);
        }
        x.errors();
    }

    /** A leaf of 30 instructions, called 37 times each by 41 functions. */
    private static void swollenModules() {
        ArrayList<Integer> leaf = row(1, 5, 127);
        for (int k = 0; k < 14; k++) {
            leaf.addAll(row(32, k % 5, 26));
        }
        leaf.addAll(row(1, 11));
        inAllModules("a leaf in many functions", callers(leaf, 41, 37), 60628);
    }

    /** A leaf of 28 rows of 60 places, called 48 times each by 17 functions. */
    private static void swollenRows() {
        ArrayList<Integer> leaf = row(0, 65, 0);
        for (int k = 0; k < 28; k++) {
            leaf.addAll(row(14, 60));
            for (int p = 0; p <= 60; p++) {
                leaf.add(0);
            }
        }
        leaf.add(11);
        inAllModules("rows in many functions", callers(leaf, 17, 48), 25343);
    }

    /** As many modules as there may be come of one whose leaf is inlined, and each is gone over and run. */
    private static void inAllModules(String what, byte[] bytes, int instructions) {
        long from = made();
        Codekiln x = new Codekiln();
        Case.addAll(x, bytes);
        Case.is(what + ": read", x.read(), 0);
        Case.is(what + ": inlined", x.pass(0, 0), 1);
        Case.is(what + ": instructions", x.moduleIs(1, 12), instructions);
        for (int k = 2; k < 12; k++) {
            Case.is(what + ": a pass", x.pass(1, 3 + k % 4), k);
        }
        for (int k = 0; k < 7; k++) {
            Case.is(what + ": steady", x.isSteady(1, k), true);
        }
        for (int k = 0; k < 12; k++) {
            Case.is(what + ": alike", x.alike(k, 0, 127, 0, 0, 0), 1);
        }
        Case.is(what + ": errors", x.errors(), 0);
        fits(what, from, ROOM);
    }

    private static byte[] callers(ArrayList<Integer> leaf, int many, int calls) {
        ArrayList<Integer> functions = row(3, many + 1, 0);
        ArrayList<Integer> codes = row(10, many + 1);
        addCode(codes, leaf);
        for (int k = 0; k < many; k++) {
            ArrayList<Integer> caller = row(0);
            for (int c = 0; c < calls; c++) {
                caller.addAll(row(16, 0));
            }
            caller.add(11);
            functions.add(0);
            addCode(codes, caller);
        }
        int[] all = Case.module(new int[] {1, 1, 96, 0, 0}, array(functions), new int[] {7, 1, 1, 'a', 0, 5}, array(codes));
        byte[] bytes = new byte[all.length];
        for (int k = 0; k < all.length; k++) {
            bytes[k] = (byte) all[k];
        }
        return bytes;
    }

    private static void addCode(ArrayList<Integer> codes, ArrayList<Integer> code) {
        codes.add(code.size() % 128 + (code.size() > 127 ? 128 : 0));
        if (code.size() > 127) {
            codes.add(code.size() / 128);
        }
        codes.addAll(code);
    }

    private static ArrayList<Integer> row(int... parts) {
        ArrayList<Integer> all = new ArrayList<>();
        for (int one : parts) {
            all.add(one);
        }
        return all;
    }

    private static int[] array(ArrayList<Integer> row) {
        int[] all = new int[row.size()];
        for (int k = 0; k < all.length; k++) {
            all[k] = row.get(k);
        }
        return all;
    }
}
