import java.lang.management.ManagementFactory;

/** All calls of one run live in one room: what a run makes stays far below 7.3 million fields and elements. */
public final class RoomTest {
    private static final Check CHECK = new Check();
    private static final com.sun.management.ThreadMXBean BEAN =
        (com.sun.management.ThreadMXBean) ManagementFactory.getThreadMXBean();

    /** With four bytes an element and every header counted on top. */
    private static final long RUN = 4_000_000L;

    private static long made() {
        return BEAN.getThreadAllocatedBytes(Thread.currentThread().getId());
    }

    public static void main(String[] args) {
        // The first one loads the classes, too.
        LetterQuay x = new LetterQuay();
        made();
        long start = made();
        x = new LetterQuay();
        long object = made() - start;
        CHECK.so("an object takes " + object + " bytes", object < 60_000);
        System.out.println("an object: " + object + " bytes");
        calls(Check.quay(5432, 5431, 5432, 5431, 5432, 5431, 5432));
        CHECK.finish();
    }

    private static void calls(LetterQuay x) {
        Check.force(x, "strokes 1" + "+1".repeat(48));
        dear("orders", () -> {
            Check.put(x, "pass if 1=1" + ";pass if 1=1".repeat(11));
            x.orders();
        });
        dear("a law with a FAULT", () -> {
            Check.put(x, "bars if 1=1" + ";bars if 1=1".repeat(12));
            x.law();
        });
        dear("mend", () -> x.mend(7));
        dear("clearest", () -> x.clearest(6));
        dear("right", () -> x.right(-1));
        dear("ask", () -> x.ask(1));
        dear("comes", () -> x.comes(20, 99));
        dear("weeks", () -> x.weeks(1, 60));
        dear("image, back", () -> {
            x.image(0);
            x.image(1);
            x.back(0);
        });
        dear("a law and back", () -> {
            x.back(0);
            Check.put(x, "strokes 1" + "+1".repeat(48));
            x.law();
        });
    }

    private static void dear(String what, Runnable call) {
        CHECK.part(what);
        call.run();
        long start = made();
        for (int n = 0; n < 512; n++) {
            call.run();
        }
        long used = made() - start;
        System.out.println(what + ": " + used / 512 + " bytes a call");
        CHECK.so("512 calls of " + what + " take " + used + " bytes", used < RUN);
    }
}
