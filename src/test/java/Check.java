import java.nio.charset.StandardCharsets;

/** One object under test, with the calls of a test told in lines; prints what is not as due. */
final class Check {
    /** Nothing is promised behind so many calls, so no test may go on with an object then. */
    private static final int MOST_CALLS = 512;

    private static int wrong;
    private static String of = "";
    final ArrayCalculator calc = new ArrayCalculator();
    private int calls;

    /** For a test that looks at what is true of any calls, also of those behind the last promised one. */
    Check withAnyCalls() {
        calls = MOST_CALLS + 1;
        return this;
    }

    /** What the next cases are of: it is printed with those that aren't as due. */
    static void of(String what) {
        of = what;
    }

    /** Feeds the line's bytes (20 at a time) and does it; answers what line() answers. */
    int line(String text) {
        byte[] bytes = text.getBytes(StandardCharsets.ISO_8859_1);
        feed(bytes);
        called(1, text);
        return calc.line(bytes.length);
    }

    void feed(byte[] bytes) {
        for (int at = 0; at < bytes.length; at += 20) {
            int[] numbers = new int[5];
            for (int i = 0; i < 20; i++) {
                int b = at + i < bytes.length ? bytes[at + i] & 255 : 0;
                numbers[i / 4] |= b << (24 - 8 * (i % 4));
            }
            calc.feed(numbers[0], numbers[1], numbers[2], numbers[3], numbers[4]);
            calls++;
        }
    }

    String printed() {
        int n = calc.print();
        StringBuilder text = new StringBuilder();
        for (int k = 0; k < n; k++) {
            text.append((char) calc.octet(k));
        }
        called(1 + n, "print");
        return text.toString();
    }

    private void called(int more, String what) {
        if (calls <= MOST_CALLS && calls + more > MOST_CALLS) {
            same(what + ": the test's calls of one object", calls + more, MOST_CALLS);
        }
        calls += more;
    }

    /** The lines are done without an error; what they come to is not looked at. */
    Check does(String... lines) {
        for (String line : lines) {
            same(line + " (answer)", line(line), 0);
        }
        return this;
    }

    /** The line is done, and its RESULT is printed so. */
    Check shows(String line, String due) {
        int answer = line(line);
        same(line, answer == 0 ? printed() : "error " + -answer + " at " + calc.told(1), due);
        return this;
    }

    /** The line is done, its RESULT is printed so and is of this KIND. */
    Check shows(String line, String due, int kind) {
        shows(line, due);
        same(line + " (kind)", calc.kind(), kind);
        calls++;
        return this;
    }

    /** The line is done, and its RESULT is of this KIND and has this COUNT. */
    Check has(String line, int kind, int count) {
        does(line);
        same(line + " (kind)", calc.kind(), kind);
        same(line + " (count)", calc.count(0), count);
        calls += 2;
        return this;
    }

    /** The line is done, and its RESULT has so many LEVELS. */
    Check levels(String line, int levels) {
        does(line);
        same(line + " (levels)", calc.count(2), levels);
        calls++;
        return this;
    }

    /** The line fails with this error at this place. */
    Check fails(String line, int error, int place) {
        int answer = line(line);
        same(line, answer == 0 ? "done: " + printed() : "error " + -answer + " at " + calc.told(1),
            "error " + error + " at " + place);
        same(line + " (told 0)", calc.told(0), error);
        calls += 2;
        return this;
    }

    /** The line is done and takes so much WORK. */
    Check takes(String line, int work) {
        return takesThenFails(line, work, 0);
    }

    /** The line fails with this error, having taken so much WORK. */
    Check takesThenFails(String line, int work, int error) {
        int before = calc.told(3);
        same(line + " (answer)", line(line), -error);
        same(line + " (work)", calc.told(2), work);
        same(line + " (work left)", calc.told(3), before - work);
        calls += 3;
        return this;
    }

    static void same(String what, long got, long due) {
        same(what, Long.toString(got), Long.toString(due));
    }

    static void same(String what, boolean got, boolean due) {
        same(what, Boolean.toString(got), Boolean.toString(due));
    }

    static void same(String what, String got, String due) {
        if (!got.equals(due)) {
            wrong++;
            System.out.println((of.isEmpty() ? "" : "\"" + of + "\"\n    ") + what + ": " + got + ", due is " + due);
        }
    }

    /** Each test ends with this. */
    static void end() {
        if (wrong > 0) {
            System.out.println(wrong + " wrong");
            System.exit(1);
        }
    }
}
