import java.nio.charset.StandardCharsets;

/** One object under test, with the calls of a test told in lines; prints what is not as due. */
final class Check {
    private static int wrong;
    final ArrayCalculator calc = new ArrayCalculator();
    private int calls;

    /** Feeds the line's bytes (20 at a time) and does it; answers what line() answers. */
    int line(String text) {
        byte[] bytes = text.getBytes(StandardCharsets.ISO_8859_1);
        feed(bytes);
        calls++;
        return calc.line(bytes.length);
    }

    void feed(byte[] bytes) {
        for (int at = 0; at < bytes.length; at += 20) {
            int[] numbers = new int[5];
            for (int i = 0; i < 20; i++) {
                int b = at + i < bytes.length ? bytes[at + i] & 255 : 0;
                numbers[i / 4] |= b << (24 - 8 * (i % 4));
            }
            calc.feed(numbers[0], numbers[1], numbers[2], numbers[3], numbers[4]);
            calls++;
        }
    }

    String printed() {
        int n = calc.print();
        StringBuilder text = new StringBuilder();
        for (int k = 0; k < n; k++) {
            text.append((char) calc.octet(k));
        }
        return text.toString();
    }

    /** The line is done, and its RESULT is printed so. */
    Check shows(String line, String due) {
        int answer = line(line);
        same(line, answer == 0 ? printed() : "error " + -answer + " at " + calc.told(1), due);
        return this;
    }

    /** The line is done, its RESULT is printed so and is of this KIND. */
    Check shows(String line, String due, int kind) {
        shows(line, due);
        same(line + " (kind)", calc.kind(), kind);
        return this;
    }

    /** The line fails with this error at this place. */
    Check fails(String line, int error, int place) {
        int answer = line(line);
        same(line, answer == 0 ? "done: " + printed() : "error " + -answer + " at " + calc.told(1),
            "error " + error + " at " + place);
        same(line + " (told 0)", calc.told(0), error);
        return this;
    }

    /** The line is done and takes so much WORK. */
    Check takes(String line, int work) {
        int before = calc.told(3);
        int answer = line(line);
        same(line + " (answer)", answer, 0);
        same(line + " (work)", calc.told(2), work);
        same(line + " (work left)", calc.told(3), before - work);
        return this;
    }

    /** The line fails with this error, having taken so much WORK. */
    Check takesThenFails(String line, int work, int error) {
        int before = calc.told(3);
        same(line + " (answer)", line(line), -error);
        same(line + " (work)", calc.told(2), work);
        same(line + " (work left)", calc.told(3), before - work);
        return this;
    }

    static void same(String what, long got, long due) {
        if (got != due) {
            wrong++;
            System.out.println(what + ": " + got + ", due is " + due);
        }
    }

    static void same(String what, boolean got, boolean due) {
        same(what, got ? 1 : 0, due ? 1 : 0);
    }

    static void same(String what, String got, String due) {
        if (!got.equals(due)) {
            wrong++;
            System.out.println(what + ": " + got + ", due is " + due);
        }
    }

    /** Each test ends with this. */
    static void end() {
        if (wrong > 0) {
            System.out.println(wrong + " wrong");
            System.exit(1);
        }
    }
}
