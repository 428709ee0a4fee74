/** Promises 3 and 4: the WORK that lines take, and what they do when there isn't enough. */
public final class WorkTest {
    public static void main(String[] args) {
        taken();
        takenByFailing();
        end();
        Check.end();
    }

    private static void taken() {
        new Check()
            .takes("1 2 3", 0)
            .takes("()", 4)
            .takes("(1;2)", 6)
            .takes("(1;'a';2 3)", 9)
            .takes("((1))", 0)
            .takes("-1 2 3", 11)
            .takes("1+1", 6)
            .takes("1 2+3 4", 12)
            .takes("2 2#1", 12)
            .takes("-2 2#1", 25)
            .takes("a: 5 6", 0)
            .takes("a", 0)
            .takes("a@(1)", 8)
            .takes("[1;2;3]", 0)
            .takes("[1+0;2;3]", 6)
            // 3, the SIZES of l, w and v, and that of what is made.
            .takes("a@(0): 9", 3 + 3 + 1 + 1 + 3)
            .takes("a@(0 1): 7 8", 3 + 3 + 3 + 3 + 3)
            .takes("f: {x}", 0)
            .takes("f 1", 5)
            .takes("1 f 2", 5)
            .takes("f f 1", 10)
            .takes("+/1 2 3", 3 + 2 * 6)
            .takes("+/5", 3)
            .takes("1+/!0", 3 + 5)
            // RUN: 3, two acts, and what is gathered: 3 and 4.
            .takes("+\\1 2 3", 3 + 12 + 7)
            .takes("-'1 2", 3 + 10 + 6)
            .takes("f'1 2", 3 + 10 + 6)
            .takes("-'!0", 5 + 3 + 4)
            .takes("+/'(1 2;3 4)", 3 + 7 + 3 + 3 + 6 + 3 + 6 + 3 + 3)
            .takes("1+'2", 3 + 6 + 5)
            .takes("(1;2)@(1)", 6 + 3 + 3 + 1 + 1);
    }

    private static void takenByFailing() {
        new Check()
            .takesThenFails("1+", 0, 1)
            .takesThenFails("nil+1+1", 6, 2)
            .takesThenFails("2 3+1 2 3", 10, 4)
            .takesThenFails("(2 2#1)+1 2", 23, 3)
            .takesThenFails("1+ 'a'", 5, 5)
            .takesThenFails("!121", 4, 5)
            .takesThenFails("+/!0", 5 + 3, 4)
            .takesThenFails("1 2+'1 2 3", 3, 4)
            .takesThenFails(",,,,,,1", 6 + 8 + 10 + 12 + 14 + 9, 8);
    }

    /** Each thing is asked with just enough and with just too little. */
    private static void end() {
        Check check = left(6);
        check.takesThenFails("1+1 1", 0, 10);
        check.takes("1+1", 6);
        Check.same("nothing is left", check.calc.told(3), 0);
        check.fails(" ()", 10, 1);
        check.fails(" -5", 10, 1);
        check.fails(" +/5", 10, 1);
        check.fails("1+fun 5", 10, 2);
        check.takes("1 2 3", 0);
        check.takes("a: 7", 0);
        check.shows("a", "7");
        check.fails("a@(0): 5", 10, 1);
        check.shows("[1;a;0]", "7");
        check.shows("g: {x+1}", "7");
        check.fails("g 5", 10, 0);
        Check.same("a failed line leaves the RESULT", check.printed(), "7");
        // What it makes is taken behind the act itself.
        left(5).takesThenFails("1+1", 5, 10);
        left(4).takesThenFails("1+1", 0, 10);
        // An act's errors come ahead of the WORK for what it makes.
        left(5).takesThenFails("1+ 'a'", 5, 5);
        left(4).takesThenFails("1+ 'a'", 0, 10);
        // GATHERED: all or nothing, behind error 8.
        left(5).takesThenFails("(1;2)", 0, 10);
        left(6).takes("(1;2)", 6);
        left(0).fails("(1" + ";'a';2".repeat(12) + ")", 8, 0);
        // A call: behind 2 and 9.
        left(4).fails("f 1", 1, 2);
        left(4).takesThenFails("fun 1", 0, 10);
        left(5).takes("fun 1", 5);
        left(2).takesThenFails("fun'1 2", 0, 10);
        left(3).takesThenFails("fun'1 2", 3, 10);
        left(13).takesThenFails("fun'1 2", 13, 10);
        left(19).takes("fun'1 2", 19);
        left(2).takesThenFails("+/!0", 0, 10);
    }

    /** An object with a function fun: {x} that has so much WORK left. */
    private static Check left(int much) {
        Check check = new Check();
        check.line("fun: {x}");
        check.line("h: {-/x}");
        check.line("r: 100#1");
        // h r: 5, 3 and 99 acts of 6 each.
        int each = 3 + 100 * (5 + 5 + 3 + 99 * 6) + 3 + 101;
        check.line("m: {h r}");
        while (check.calc.told(3) - much > each) {
            check.line("m'r");
        }
        while (check.calc.told(3) - much > 1000) {
            check.line("h r");
        }
        while (check.calc.told(3) - much > 100) {
            check.line("-'1 2 3 4 5 6");
        }
        // 5 for a call, 4 for (): with both, every rest from 12 on can be used up.
        while (check.calc.told(3) - much > 0) {
            int rest = check.calc.told(3) - much;
            check.line(rest % 4 == 0 ? "()" : "fun 1");
        }
        Check.same("left", check.calc.told(3), much);
        return check;
    }
}
