import java.lang.management.ManagementFactory;
import java.util.function.IntConsumer;

/**
 * All calls of a run live in one room of some 600,000 objects and 7.3 million fields and elements: looks that 512 of the
 * dearest calls leave most of it free. Bytes are told by the machine: an int takes 4 of them, an object 16 and more.
 */
public final class RoomTest {
    private static final long MOST_BYTES = 3000000;
    private static final int CALLS = 512;
    private static int wrong = 0;
    private static long kept = 0;

    public static void main(String[] args) {
        Stepsdown warm = full();
        run("a new object", call -> kept += call == 0 ? new Stepsdown().house(0) : 0);
        run("digest", call -> kept += warm.digest());
        run("isSound", call -> kept += warm.isSound() ? 1 : 0);
        run("terms", call -> kept += warm.terms(call % 8).length());
        run("machine", call -> kept += warm.machine(call % 8, 9, 7, -8, 9, 20));
        run("bests", call -> kept += warm.bests(call % 8, 60, 0));
        run("fence", call -> kept += warm.fence(call % 8, 9900, 40).length());
        run("answerText", call -> kept += warm.answerText(181, 1, 8).length());
        run("answers", call -> kept += warm.answers(199, 1, 20));
        run("convergentText", call -> kept += warm.convergentText(call % 8, 60).length());
        Stepsdown tower = new Stepsdown();
        tower.fraction(1, 1);
        run("great numbers", call -> kept += grow(tower, call));
        Stepsdown tight = new Stepsdown();
        tight.root(0, 199, 1);
        run("maps that are refused", call -> kept += tryMap(tight, call));
        System.out.println(wrong == 0 ? "there is room" : "the room is too small " + kept % 2);
        System.exit(wrong == 0 ? 0 : 1);
    }

    private static Stepsdown full() {
        Stepsdown x = new Stepsdown();
        for (int row = 0; row < 8; row++) {
            x.root(99 - row, 199 - 8 * row, 6);
        }
        x.calendar(0, 9999);
        return x;
    }

    private static int grow(Stepsdown x, int call) {
        if (x.house(0) > 6) {
            return x.remove(0);
        }
        return x.map(x.house(0) - 1, 9, call % 10, 0, 1);
    }

    private static int tryMap(Stepsdown x, int call) {
        if (x.house(0) > 6) {
            return x.remove(0);
        }
        try {
            return x.map(x.house(0) - 1, 9, call % 7, 2, 7);
        } catch (IllegalStateException e) {
            return x.machine(x.house(0) - 1, 9, call % 7, 2, 7, 20);
        }
    }

    private static void run(String name, IntConsumer calls) {
        com.sun.management.ThreadMXBean bean =
                (com.sun.management.ThreadMXBean) ManagementFactory.getThreadMXBean();
        long thread = Thread.currentThread().getId();
        long before = bean.getThreadAllocatedBytes(thread);
        for (int call = 0; call < CALLS; call++) {
            calls.accept(call);
        }
        long bytes = bean.getThreadAllocatedBytes(thread) - before;
        if (bytes > MOST_BYTES) {
            wrong++;
            System.out.println(CALLS + " calls of " + name + " took " + bytes + " bytes");
        }
        if (System.getProperty("told") != null) {
            System.out.println(name + ": " + bytes);
        }
    }
}
