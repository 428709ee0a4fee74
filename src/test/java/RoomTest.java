import com.sun.management.ThreadMXBean;
import java.lang.management.ManagementFactory;

/**
 * The room: what a whole run makes is measured in bytes. A field or an element has at least 4 of
 * them, a value 56, an array with something in it at least 24: so 16 million bytes are less than
 * 4 million fields and elements, and well less than 600,000 objects and arrays.
 */
public final class RoomTest {
    private static final long MOST_BYTES = 16_000_000;
    /** What a line takes that ends in an error: it is read, and hardly anything is made. */
    private static final long MOST_FOR_AN_ERROR = 8_000;

    private static final String[][] RUNS = {
        {"f:{-1}", "g:{#f'!120}", "g'!120"},
        {"t:120#7", "f:{#+/'t}", "g:{#f'!120}", "g'!120"},
        {"t:12 1#!12", "f:{#+/'t}", "g:{#f'!120}", "g'!120"},
        {"t:12 1#!12", "f:{#+\\'t}", "g:{#f'!120}", "g'!120"},
        {"t:12 12#!12", "f:{1}", "g:{1 f/t}", "h:{#g'!120}", "h'!120"},
        {"t:12 1#!12", "h:{1}", "f:{#t h't}", "g:{#f'!120}", "g'!120"},
        {"t:120#7", "f:{-/t}", "g:{#f'!120}", "g'!120"},
        {"f:{#()}", "g:{#f'!120}", "g'!120"},
        {"f:{#(()" + ";()".repeat(23) + ")}", "g:{#f'!120}", "g'!120"},
        {"t:12 12#!144", "t:12 12#!120", "f:{#?t}", "g:{#f'!120}", "g'!120"},
        {"t:!24", "f:{#=t}", "g:{#f'!120}", "g'!120"},
        // Items made only to come to rows without items.
        {"z:24#0", "f:{#z#'z}", "g:{#f'!120}", "g'!120"},
        {"z:24#0", "f:{#!'z}", "g:{#f'!120}", "g'!120"},
        {"n:24#,!0", "f:{#='n}", "g:{#f'!120}", "g'!120"},
        // NESTS of nothing but NESTS, of ONEs, and of NESTS of one value.
        {"m:24#,()", "n:24#,m", "k:15#,m", "b:(n;k),22#,()", "f:{#-----b}", "g:{#f'!120}", "g'!120"},
        {"o:24#1#(1;'a')", "m:24#,o", "b:(m;15#,o)", "f:{#-----b}", "g:{#f'!120}", "g'!120"},
        {"o:24#1#(1;'a')", "m:24#,o", "b:(m;15#,o)", "f:{#b=!0}", "g:{#f'!120}", "g'!120"},
        {"o:1#(1;'a')", "q:1#,1#,o", "b:10#,24#,q", "f:{#-----b}", "g:{#f'!120}", "g'!120"},
        {"o:1#,()", "f:{#" + "-".repeat(80) + "o}", "g:{#f'!120}", "g'!120"},
        // What is far too great is refused without being made.
        {"n:(1" + ";'a'".repeat(23) + ")", "m:24#,n", "m:24#,12#n", "m=!120", "m=12 12#1"},
    };

    /** Lines of which each ends in its error; s, t, r, g have a SIZE of some 900 and are wrong at their ends, d has 5 LEVELS. */
    private static final String[] BIG_NESTS = {
        "m:24#,()", "n:24#,m", "k:12#,m", "l:(n;k),20#,()",
        "s:l, 'x'", "t:l,,2 2#_2147483648", "r:l,,1 2 3", "g:l,9*999999999999999999", "d:(1#,1#,1#,1#,1#(1;'a')),20#,m",
    };
    private static final String[] WRONG = {
        "5-s", "5%s", "5~s", "5s+1", "5s-1", "51*s", "51%s", "5s!1", "5s&1", "51|s", "5s<1", "51>s", "5s+s", "5(s;0 1)+1",
        "3t=1 2", "3t+1 2", "31 2*t", "3r=t", "4r=1 2", "41 2<r", "4r+,r",
        "6-t", "6t-1", "6t-2 2#1", "6g*g", "5g%0", "50!g", "8d=!0", "8(!0)>d", "8d=2 2#0",
    };

    private static final ThreadMXBean THREADS = (ThreadMXBean) ManagementFactory.getThreadMXBean();

    public static void main(String[] args) {
        for (String[] run : RUNS) {
            long before = bytesMade();
            doRun(run);
            atMost("bytes made by " + String.join(" ; ", run), bytesMade() - before, MOST_BYTES);
        }
        runOfErrors();
        errorsMakeNothing();
        Check.end();
    }

    private static long bytesMade() {
        return THREADS.getThreadAllocatedBytes(Thread.currentThread().getId());
    }

    private static void atMost(String what, long got, long most) {
        if (got > most) {
            Check.same(what, got, most);
        }
    }

    private static void doRun(String[] run) {
        Check check = new Check();
        for (String line : run) {
            check.line(line);
        }
        for (int i = 0; i < 100; i++) {
            check.line(run[run.length - 1]);
        }
    }

    /** A run of lines that come to an error at the last value of a NEST of SIZE 1,000. */
    private static void runOfErrors() {
        long before = bytesMade();
        Check check = new Check();
        String[] first = {"m:24#,()", "n:24#,m", "k:15#,m", "b:(n;k),22#,()", "a:(n;k),(21#,()), 'x'"};
        for (String line : first) {
            Check.same(line, check.line(line), 0);
        }
        Check.same("WORK ahead of the errors", check.calc.told(3), 492718);
        for (int i = 0; i < 118; i++) {
            Check.same("(-a;-b)", check.line("(-a;-b)"), -5);
        }
        for (int i = 0; i < 131; i++) {
            Check.same("-a", check.line("-a"), -5);
        }
        Check.same("WORK behind them", check.calc.told(3), 6617);
        atMost("bytes made by a run of errors", bytesMade() - before, MOST_BYTES);
    }

    private static void errorsMakeNothing() {
        Check check = new Check();
        for (String line : BIG_NESTS) {
            Check.same(line, check.line(line), 0);
        }
        for (String wrong : WRONG) {
            String line = wrong.substring(1);
            long before = bytesMade();
            int answer = check.line(line);
            atMost("bytes made by " + line, bytesMade() - before, MOST_FOR_AN_ERROR);
            Check.same(line, answer, '0' - wrong.charAt(0));
        }
    }
}
