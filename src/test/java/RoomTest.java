import java.lang.management.ManagementFactory;

/**
 * The room: what a whole run makes, until its WORK is used up, is measured in bytes. A field or an
 * element has at least 4, an object of the class's own at least 24 of them, so 16 million bytes are
 * less than 4 million fields and 600,000 objects.
 */
public final class RoomTest {
    private static final long MOST_BYTES = 16_000_000;

    private static final String[][] RUNS = {
        {"f:{-1}", "g:{#f'!120}", "g'!120"},
        {"t:120#7", "f:{#+/'t}", "g:{#f'!120}", "g'!120"},
        {"t:12 1#!12", "f:{#+/'t}", "g:{#f'!120}", "g'!120"},
        {"t:12 12#!12", "f:{1}", "g:{1 f/t}", "h:{#g'!120}", "h'!120"},
        {"t:120#7", "f:{-/t}", "g:{#f'!120}", "g'!120"},
        {"f:{#()}", "g:{#f'!120}", "g'!120"},
        {"t:12 12#!144", "t:12 12#!120", "f:{#?t}", "g:{#f'!120}", "g'!120"},
        {"t:!24", "f:{#=t}", "g:{#f'!120}", "g'!120"},
        // What is far too great is refused without being made.
        {"n:(1" + ";'a'".repeat(23) + ")", "m:24#,n", "m:24#,12#n", "m=!120", "m=12 12#1"},
    };

    public static void main(String[] args) {
        com.sun.management.ThreadMXBean threads =
            (com.sun.management.ThreadMXBean) ManagementFactory.getThreadMXBean();
        long thread = Thread.currentThread().getId();
        for (String[] run : RUNS) {
            long before = threads.getThreadAllocatedBytes(thread);
            doRun(run);
            long made = threads.getThreadAllocatedBytes(thread) - before;
            if (made > MOST_BYTES) {
                Check.same("bytes made by " + String.join(" ; ", run), made, MOST_BYTES);
            }
        }
        Check.end();
    }

    private static void doRun(String[] run) {
        Check check = new Check();
        for (String line : run) {
            check.line(line);
        }
        for (int i = 0; i < 100; i++) {
            check.line(run[run.length - 1]);
        }
    }
}
