/** PART 1, promises 3 and 4: the WORK that lines take, and what they do when there isn't enough. */
public final class WorkTest {
    public static void main(String[] args) {
        all();
        Check.end();
    }

    static void all() {
        forEver();
        acts();
        actsThatFail();
        gathered();
        callsAndAdverbs();
        nothingElseTakes();
        notEnough();
        notEnoughForWhatIsMade();
        notEnoughForGathered();
        notEnoughForCallsAndAdverbs();
        nothingLeft();
    }

    private static void forEver() {
        Check check = Doc.says("WORK: 500,000 there are, for ever.");
        Check.same("of a new object", check.calc.told(3), 500000);
        check.takes("1+1", 6);
        check.calc.keep(0);
        check.takes("1+1", 6);
        check.calc.back(0);
        Check.same("back brings none", check.calc.told(3), 499988);
        check.takesThenFails("1+ 'a'", 5, 5);
        Check.same("an error brings none", check.calc.told(3), 499983);
    }

    private static void acts() {
        Doc.says("Each act of PART 3 and 4 takes 3 and the SIZES of its values ahead of all that it asks, and the SIZE of "
                + "what it makes behind all (AMENDED likewise, of l, w and v);")
            .takes("-1 2 3", 3 + 4 + 4)
            .takes("1+1", 3 + 1 + 1 + 1)
            .takes("1 2+3 4", 3 + 3 + 3 + 3)
            .takes("2 2#1", 3 + 3 + 1 + 5)
            .takes("-2 2#1", 12 + 3 + 5 + 5)
            .takes("(1;2)@(1)", 6 + 3 + 3 + 1 + 1)
            .takes("a: 5 6", 0)
            .takes("a@(1)", 3 + 3 + 1 + 1)
            .takes("a@(0): 9", 3 + 3 + 1 + 1 + 3)
            .takes("a@(0 1): 7 8", 3 + 3 + 3 + 3 + 3)
            .takes("a@(1): !3", 3 + 1 + 4 + 3 + 3 + 1 + 4 + 6);
    }

    private static void actsThatFail() {
        Check.of("Each act takes .. ahead of all that it asks");
        new Check()
            .takesThenFails("2 3+1 2 3", 3 + 3 + 4, 4)
            .takesThenFails("(2 2#1)+1 2", 12 + 3 + 5 + 3, 3)
            .takesThenFails("1+ 'a'", 5, 5)
            .takesThenFails("!121", 4, 5)
            .takesThenFails("&,121", 6 + 3 + 2, 8)
            .takesThenFails("5 6@(2)", 3 + 3 + 1, 7)
            .takesThenFails("1%0", 5, 5)
            .takesThenFails("4294967296*4294967296", 5, 6)
            // What would be too great is not taken for: 9 is 3 and the SIZE of ,,,,,1.
            .takesThenFails(",,,,,,1", 6 + 8 + 10 + 12 + 14 + 9, 8)
            .takesThenFails("nil+1+1", 6, 2)
            .does("a: 5 6")
            .takesThenFails("a@(2): 1", 3 + 3 + 1 + 1, 7)
            .takesThenFails("a@(()): 1", 4 + 3 + 3 + 1 + 1, 3)
            .takesThenFails("nil@(0): 1+1", 6, 2);
    }

    private static void gathered() {
        Doc.says("each GATHERED value 3 and its SIZE, behind all else;")
            .takes("()", 3 + 1)
            .takes("(1;2)", 3 + 3)
            .takes("(1;'a';2 3)", 3 + 6)
            .takes("((1))", 0)
            .takesThenFails("(1" + ";'a';2".repeat(12) + ")", 0, 8)
            .takesThenFails("(1;,,,,,1)", 6 + 8 + 10 + 12 + 14, 8);
    }

    private static void callsAndAdverbs() {
        Doc.says("a call of a function takes 5, an ADVERB 3 each time that it's done, ahead of what they do.")
            .takes("f: {x}", 0)
            .takes("f 1", 5)
            .takes("1 f 2", 5)
            .takes("f f 1", 10)
            .does("g: {nil}")
            .takesThenFails("g 1", 5, 2)
            .takes("+/1 2 3", 3 + 2 * 6)
            .takes("+/5", 3)
            .takes("1+/!0", 5 + 3)
            .takesThenFails("+/!0", 5 + 3, 4)
            .takesThenFails("1 2+'1 2 3", 3, 4)
            .takesThenFails("g'1 2", 3 + 5, 2)
            .takes("+\\1 2 3", 3 + 2 * 6 + 3 + 4)
            .takes("-'1 2", 3 + 2 * 5 + 3 + 3)
            .takes("f'1 2", 3 + 2 * 5 + 3 + 3)
            .takes("-'!0", 5 + 3 + 3 + 1)
            .takes("1+'2", 3 + 6 + 3 + 2)
            .does("n: (1 2;3 4)")
            // EACH once, FOLDED twice.
            .takes("+/'n", 3 + 2 * (3 + 6) + 3 + 3)
            .takes("+/''n", 3 + 2 * (3 + 2 * 3 + 3 + 3) + 3 + 1 + 2 * 3);
    }

    private static void nothingElseTakes() {
        Check.of("what takes no WORK");
        new Check()
            .takes("1 2 3", 0)
            .takes("'abc'", 0)
            .takes("a: 5", 0)
            .takes("a", 0)
            .takes("(a)", 0)
            .takes("[1;2;3]", 0)
            .takes("[1+0;2;3]", 6)
            .takesThenFails("1+", 0, 1)
            .takesThenFails("(1+1)+1+", 0, 1)
            .takesThenFails("['a';1+1;2]", 0, 5);
    }

    /** Each thing is asked with just enough and with just too little. */
    private static void notEnough() {
        Doc.says("What there isn't enough for is error 10, taking nothing.");
        left(6).takesThenFails("1+1 1", 0, 10).takes("1+1", 6);
        left(4).takesThenFails("1+1", 0, 10).takesThenFails("1+1", 0, 10);
        // An act takes ahead of its errors.
        left(5).takesThenFails("1+ 'a'", 5, 5);
        left(4).takesThenFails("1+ 'a'", 0, 10);
        left(7).takesThenFails("r@(0): 1", 0, 10);
        left(105).takesThenFails("r@(0): 1", 0, 10);
        left(106).takesThenFails("r@(0): 1", 106, 10);
        left(106).takesThenFails("r@(100): 1", 106, 7);
        left(105).takesThenFails("r@(100): 1", 0, 10);
        left(207).takes("r@(0): 1", 207);
    }

    private static void notEnoughForWhatIsMade() {
        Check.of("the SIZE of what it makes behind all");
        left(5).takesThenFails("1+1", 5, 10);
        left(6).takes("1+1", 6);
        left(6).takesThenFails("1+1 1", 0, 10);
        left(7).takesThenFails("1+1 1", 7, 10);
        left(206).takesThenFails("r@(0): 1", 106, 10).shows("#r", "error 10 at 0");
        // Error 8 of what is too great comes ahead of it.
        left(6 + 8 + 10 + 12 + 14 + 9).takesThenFails(",,,,,,1", 59, 8);
    }

    private static void notEnoughForGathered() {
        Check.of("each GATHERED value 3 and its SIZE, behind all else, or nothing");
        left(5).takesThenFails("(1;2)", 0, 10);
        left(6).takes("(1;2)", 6);
        left(3).takesThenFails("()", 0, 10);
        left(4).takes("()", 4);
        left(0).fails("(1" + ";'a';2".repeat(12) + ")", 8, 0);
        left(18).takesThenFails("fun'1 2", 13, 10);
        left(19).takes("fun'1 2", 19);
    }

    private static void notEnoughForCallsAndAdverbs() {
        Check.of("a call of a function takes 5, an ADVERB 3");
        left(4).takesThenFails("fun 1", 0, 10);
        left(5).takes("fun 1", 5);
        left(2).takesThenFails("fun'1 2", 0, 10);
        left(3).takesThenFails("fun'1 2", 3, 10);
        left(12).takesThenFails("fun'1 2", 8, 10);
        left(2).takesThenFails("+/!0", 0, 10);
        left(2).takesThenFails("+/1", 0, 10);
        left(3).takes("+/1", 3);
        // An ADVERB takes ahead of its error 4.
        left(2).takesThenFails("1 2+'1 2 3", 0, 10);
        left(3).takesThenFails("1 2+'1 2 3", 3, 4);
    }

    private static void nothingLeft() {
        Check.of("nothing is left");
        Check check = left(0);
        Check.same("told 3", check.calc.told(3), 0);
        check.fails(" ()", 10, 1).fails(" -5", 10, 1).fails(" +/5", 10, 1).fails("1+fun 5", 10, 2)
            .takes("1 2 3", 0).takes("a: 7", 0).shows("a", "7")
            .fails("a@(0): 5", 10, 1)
            .shows("[1;a;0]", "7")
            .shows("g: {x+1}", "7")
            .fails("g 5", 10, 0).fails("nil", 2, 0).fails("1+", 1, 2);
        Check.same("a failed line leaves the RESULT", check.printed(), "7");
    }

    /** An object with fun: {x} and r: 100#1 that has so much WORK left. */
    private static Check left(int much) {
        Check check = new Check();
        check.line("fun: {x}");
        check.line("h: {-/x}");
        check.line("r: 100#1");
        // h r: 5, 3 and 99 acts of 6 each.
        int each = 3 + 100 * (5 + 5 + 3 + 99 * 6) + 3 + 101;
        check.line("m: {h r}");
        while (check.calc.told(3) - much > each) {
            check.line("m'r");
        }
        while (check.calc.told(3) - much > 1000) {
            check.line("h r");
        }
        while (check.calc.told(3) - much > 100) {
            check.line("-'1 2 3 4 5 6");
        }
        // 5 for a call, 4 for (): with both, every rest from 12 on can be used up.
        while (check.calc.told(3) - much > 0) {
            int rest = check.calc.told(3) - much;
            check.line(rest % 4 == 0 ? "()" : "fun 1");
        }
        Check.same("left", check.calc.told(3), much);
        return check;
    }
}
