import com.sun.management.ThreadMXBean;
import java.lang.management.ManagementFactory;
import java.util.ArrayList;

/** All calls of one run live in one room: what they make anew is counted, for what swells most. */
public final class RoomTest {
    /** As many fields and elements as the room has, the least of them (but bytes) of four bytes. */
    private static final long ROOM = 7_300_000L * 4;
    private static final ThreadMXBean THREADS = (ThreadMXBean) ManagementFactory.getThreadMXBean();

    public static void main(String[] args) {
        piecesAgain();
        swollenModules();
        Case.end();
    }

    private static long made() {
        return THREADS.getThreadAllocatedBytes(Thread.currentThread().getId());
    }

    private static void fits(String what, long from, long most) {
        long bytes = made() - from;
        Case.is(what + ": " + bytes + " bytes made, at most " + most, bytes <= most, true);
    }

    /** What is asked again makes hardly anything anew. */
    private static void piecesAgain() {
        Codekiln x = new Codekiln();
        for (int k = 0; k < 6; k++) {
            x.piece(k);
            x.load();
            x.make(k);
            x.passes(k, 127);
        }
        everyWay(x);
        long from = made();
        for (int k = 0; k < 10; k++) {
            everyWay(x);
        }
        fits("pieces asked again", from, 200_000);
    }

    private static void everyWay(Codekiln x) {
        for (int k = 0; k < 6; k++) {
            int f = k == 3 ? 1 : k == 4 ? 2 : 0;
            x.mean(k, f, 7, 3, 0);
            x.agree(k, f, 127, 7, 3, 0);
            x.alike(2 * k, f, 127, 7, 3, 0);
            x.isSteady(2 * k, k);
        }
        x.errors();
    }

    /** A leaf of 30 instructions in 41 functions that call it 37 times each, in all modules that there may be. */
    private static void swollenModules() {
        byte[] bytes = callers();
        long from = made();
        Codekiln x = new Codekiln();
        Case.addAll(x, bytes);
        Case.is("module of callers", x.read(), 0);
        Case.is("callers inlined", x.pass(0, 0), 1);
        Case.is("instructions of inlined ones", x.moduleIs(1, 12), 60628);
        for (int k = 2; k < 12; k++) {
            Case.is("a pass over them", x.pass(1, 4 + k % 3), k);
        }
        for (int k = 0; k < 7; k++) {
            Case.is("steady", x.isSteady(1, k), true);
        }
        for (int k = 0; k < 12; k++) {
            Case.is("alike", x.alike(k, 0, 127, 0, 0, 0), 1);
        }
        Case.is("errors", x.errors(), 0);
        fits("swollen modules", from, ROOM);
    }

    private static byte[] callers() {
        ArrayList<Integer> functions = row(3, 42);
        ArrayList<Integer> codes = row(10, 42, 64, 1, 5, 127);
        for (int k = 0; k < 14; k++) {
            codes.addAll(row(32, k % 5, 26));
        }
        codes.addAll(row(1, 11));
        codes.set(2, codes.size() - 3);
        functions.add(0);
        for (int k = 0; k < 41; k++) {
            functions.add(0);
            codes.addAll(row(76, 0));
            for (int c = 0; c < 37; c++) {
                codes.addAll(row(16, 0));
            }
            codes.add(11);
        }
        int[] all = Case.module(new int[] {1, 1, 96, 0, 0}, array(functions), new int[] {7, 1, 1, 'a', 0, 5}, array(codes));
        byte[] bytes = new byte[all.length];
        for (int k = 0; k < all.length; k++) {
            bytes[k] = (byte) all[k];
        }
        return bytes;
    }

    private static ArrayList<Integer> row(int... parts) {
        ArrayList<Integer> all = new ArrayList<>();
        for (int one : parts) {
            all.add(one);
        }
        return all;
    }

    private static int[] array(ArrayList<Integer> row) {
        int[] all = new int[row.size()];
        for (int k = 0; k < all.length; k++) {
            all[k] = row.get(k);
        }
        return all;
    }
}
