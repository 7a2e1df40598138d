import com.sun.management.ThreadMXBean;
import java.lang.management.ManagementFactory;

/**
 * What runs of the dearest calls make. There is room for some 600,000 objects and arrays and 7.3 million elements;
 * an object takes 16 bytes or more and an element one or more, so a limit in bytes holds for both.
 */
public final class RoomTest {
    private static final long MOST_BYTES = 3000000;
    private static final int CALLS = 512;

    private static Object kept;
    private static int wrong;

    private interface Run {
        Object call(Backwardterms b, int i);
    }

    public static void main(String[] args) {
        check("new objects", (b, i) -> i % 100 == 0 ? new Backwardterms() : b.knock());
        check("term(6, 100)", (b, i) -> b.term(6, 100));
        check("term(6, -30)", (b, i) -> b.term(6, -30));
        check("text", (b, i) -> b.text(6));
        check("fraction", (b, i) -> b.fraction(6));
        check("digest", (b, i) -> b.digest());
        check("made and digested", (b, i) -> i % 2 == 0 ? b.combine(8 + i / 2 % 18, 4, 5, i / 2 % 2) : b.digest());
        check("made and sound", (b, i) -> i % 2 == 0 ? b.combine(8 + i / 2 % 18, 4, 5, i / 2 % 2) : b.isSound());
        check("all names digested", (b, i) -> i < 19 ? b.combine(7 + i, 4, 5, i % 2) : b.digest());
        check("two", (b, i) -> b.two(7, 99, 99, 99, i % 99));
        check("two and undo", (b, i) -> i % 2 == 0 ? b.two(7, 3, -2, 4, 4) : b.undo());
        check("refused", (b, i) -> refused(b));
        check("unsure", (b, i) -> b.adopt(9));
        check("found", (b, i) -> b.foundFactor(1 + i % 8));
        check("wind", (b, i) -> b.wind());
        check("wound", (b, i) -> b.wound(40));
        check("woundSum", (b, i) -> b.woundSum(41));
        check("value", (b, i) -> b.value(100));
        check("powers", (b, i) -> b.powers(9, 999));
        check("fails", (b, i) -> b.fails(2, 6, 6, 6));
        check("period", (b, i) -> b.period(6, 1 + i % 20, true));
        check("wrong calls", (b, i) -> wrongCall(b));
        if (wrong > 0) System.exit(1);
        System.out.println("RoomTest: all runs stay small");
    }

    private static void check(String what, Run run) {
        // the first time, the Java machine's own loading of classes counts too
        bytesOf(run);
        long bytes = bytesOf(run);
        if (bytes <= MOST_BYTES) return;
        wrong++;
        System.out.println(what + " made " + bytes + " bytes, the most are " + MOST_BYTES);
    }

    private static long bytesOf(Run run) {
        ThreadMXBean threads = (ThreadMXBean) ManagementFactory.getThreadMXBean();
        long id = Thread.currentThread().getId();
        long before = threads.getThreadAllocatedBytes(id);
        Backwardterms b = large();
        for (int i = 0; i < CALLS; i++) kept = run.call(b, i);
        return threads.getThreadAllocatedBytes(id) - before;
    }

    /** "g" has the ORDER 8 and FACTORS of six digits, "h" grows by 970298; the desk's recurrence has the ORDER 8. */
    private static Backwardterms large() {
        Backwardterms b = new Backwardterms();
        b.two(0, 1, 31, 99, -99);
        b.two(1, 2, 31, 99, 99);
        b.two(2, -3, 31, -98, 97);
        b.two(3, 4, 31, 99, 99);
        b.combine(4, 0, 1, 0);
        b.combine(5, 2, 3, 0);
        b.combine(6, 4, 5, 0);
        b.lay(5, 1, 97, 98, 99, 98);
        b.lay(5, 97, 30, 99, -5, 7);
        b.lay(5, 3, 2, 8, 4, 1);
        b.lay(1, 6, 0, 0, 0, 0);
        b.wind();
        return b;
    }

    private static Object refused(Backwardterms b) {
        try {
            return b.derive(7, 6, 2, 6);
        } catch (IllegalStateException e) {
            return null;
        }
    }

    private static Object wrongCall(Backwardterms b) {
        try {
            return b.term(26, 0);
        } catch (IndexOutOfBoundsException e) {
            return null;
        }
    }
}
