/**
 * For any arguments in any state no call throws, and the same calls have the same answers: runs of
 * calls made by a simple rule, of lines that are nearly right and of bytes of all sorts.
 */
public final class AnyCallsTest {
    private static final String[] PIECES = {
        "1", "2", "_3", "0", "120", "25", "3000000000", "999999999999999999", "1 2 3", "2 2#1 2 3 4", "'a'", "'abc'",
        "a", "b", "f", "g", "x", "y", "()", "(", ")", "[", "]", "{", "}", ";", ":", "@(", "@(0):", "a:", "f:{", "g:{x",
        "(1;'a')", "!5", "+", "-", "*", "%", "&", "|", "<", ">", "=", "~", "!", ",", "#", "?", "@", "$", "^", ".", "_",
        "/", "\\", "'", " ", "  ", "+/", ",'", "f'", "g\\", "\"", "\u0000", "\u00ff", "[x;f x-1;1]", "(a;b)", "24#", ",,",
    };

    private long state;

    private AnyCallsTest(long seed) {
        state = seed;
    }

    public static void main(String[] args) {
        for (int seed = 1; seed <= 60; seed++) {
            long once = new AnyCallsTest(seed).run();
            long again = new AnyCallsTest(seed).run();
            Check.same("run " + seed, again, once);
        }
        Check.end();
    }

    private int next(int below) {
        state = state * 6364136223846793005L + 1442695040888963407L;
        return (int) ((state >>> 33) % below);
    }

    private long run() {
        Check check = new Check().withAnyCalls();
        long answers = 0;
        for (int i = 0; i < 400; i++) {
            answers = answers * 31 + call(check);
        }
        return answers;
    }

    private long call(Check check) {
        ArrayCalculator calc = check.calc;
        switch (next(12)) {
            case 0:
                return calc.feed(any(), any(), any(), any(), any());
            case 1:
                return calc.line(next(3) == 0 ? any() : next(210) - 5);
            case 2:
                return calc.told(any());
            case 3:
                return calc.point(any(), any()) ? 1 : 0;
            case 4:
                return calc.kind() + 10L * calc.count(any()) + calc.item(any());
            case 5:
                return calc.print() + calc.octet(any());
            case 6:
                return (calc.keep(any()) ? 1 : 0) + (calc.back(any()) ? 2 : 0);
            case 7:
                return calc.names(any()) + calc.letter(any(), any(), any());
            default:
                return wellFed(check) + calc.told(2) + 31L * check.printed().hashCode();
        }
    }

    private long wellFed(Check check) {
        StringBuilder text = new StringBuilder();
        int pieces = 1 + next(12);
        for (int i = 0; i < pieces; i++) {
            text.append(PIECES[next(PIECES.length)]);
        }
        check.calc.line(0);
        return check.line(text.substring(0, Math.min(200, text.length())));
    }

    private int any() {
        int[] edges = {0, 1, 2, 3, 4, -1, 5, 12, 20, 40, 119, 120, Integer.MAX_VALUE, Integer.MIN_VALUE};
        return next(4) == 0 ? (int) (state >>> 16) : edges[next(edges.length)];
    }
}
