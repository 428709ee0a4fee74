/** Promises 9 and 10, PART 5: what values look like. */
public final class PrintTest {
    public static void main(String[] args) {
        forms();
        atMost400();
        octets();
        Check.end();
    }

    private static void forms() {
        new Check()
            .shows("0", "0")
            .shows("_12", "_12")
            .shows("100", "100")
            .shows("'a'", "'a'")
            .shows(", 'a'", ",'a'")
            .shows("'ab c'", "'ab c'")
            .shows("0# 'a'", "''")
            .shows("$ 'a'", "'.a.'")
            .shows("*$ 'a'", "'.'")
            .shows("1 _2 3", "1 _2 3")
            .shows(",5", ",5")
            .shows("!0", "!0")
            .shows("0#3000000000", "!0")
            .shows(",3000000000", ",3000000000")
            .shows("5 3000000000", "5 3000000000")
            .shows("1 0 1=1", "101b")
            .shows("1=,1", "1b")
            .shows("1=!0", "b")
            .shows("2 2#1 _2 3 4", "[1 _2;3 4]")
            .shows("1 3#1 2 3", "[1 2 3]")
            .shows("(1;'a';'bc';2 3;();1 1#5;,4;1=1 2)", "(1;'a';'bc';2 3;();[5];,4;10b)")
            .shows(",1 2", "(1 2)")
            .shows("()", "()");
    }

    private static void atMost400() {
        Check check = new Check();
        check.line("120#_2147483648");
        Check.same("bytes told", check.calc.print(), 400);
        Check.same("byte 399", check.calc.octet(399), "_2147483648 ".charAt(399 % 12));
        Check.same("byte 400", check.calc.octet(400), -1);
        check.line("(78#100),(8#1000),2");
        Check.same("312 and 40 and 1", check.calc.print(), 353);
        check.line("(99#100),,12345");
        Check.same("396 and 5", check.calc.print(), 400);
        Check.same("the fifth is not kept", check.calc.octet(399), '4');
        check.line("(99#100),,1234");
        Check.same("396 and 4", check.calc.print(), 400);
        check.line("(99#100),,123");
        Check.same("396 and 3", check.calc.print(), 399);
    }

    private static void octets() {
        Check check = new Check();
        Check.same("ahead of print", check.calc.octet(0), -1);
        check.line("'xyz'");
        Check.same("a line prints nothing", check.calc.octet(0), -1);
        Check.same("print", check.calc.print(), 5);
        Check.same("octet 0", check.calc.octet(0), '\'');
        Check.same("octet 1", check.calc.octet(1), 'x');
        Check.same("octet 4", check.calc.octet(4), '\'');
        Check.same("octet 5", check.calc.octet(5), -1);
        Check.same("octet -1", check.calc.octet(-1), -1);
        Check.same("octet MAX", check.calc.octet(Integer.MAX_VALUE), -1);
        Check.same("octet MIN", check.calc.octet(Integer.MIN_VALUE), -1);
        check.line("$12345");
        Check.same("what print made stays", check.calc.octet(1), 'x');
        check.line("7");
        Check.same("print again", check.calc.print(), 1);
        Check.same("octet 0 then", check.calc.octet(0), '7');
        Check.same("octet 1 then", check.calc.octet(1), -1);
    }
}
