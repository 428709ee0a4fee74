/** PART 5, promises 9 and 10: what values look like. */
public final class PrintTest {
    public static void main(String[] args) {
        all();
        Check.end();
    }

    static void all() {
        numbers();
        signs();
        rows();
        bits();
        tables();
        nests();
        print();
        atMost400();
        octets();
    }

    private static void numbers() {
        Doc.says("PART 5. PRINTED: a NUMBER: its digits, a _ ahead below 0;")
            .shows("0", "0").shows("_0", "0").shows("7", "7").shows("_12", "_12").shows("100", "100")
            .shows("854775807+9223372036*1000000000", "9223372036854775807")
            .shows("_854775808-9223372036*1000000000", "_9223372036854775808");
    }

    private static void signs() {
        // TEXTS hold bytes 32 to 126 without ', and $ alone makes a SIGN ': no line can make any other.
        Check check = Doc.says("ONE SIGN, SIGNS: the bytes between two ' (a dot for a ' and for bytes that aren't 32 to 126), one of a row with a "
                + ", ahead;")
            .shows("'a'", "'a'").shows("' '", "' '").shows("'~'", "'~'").shows("'ab c'", "'ab c'").shows(", 'a'", ",'a'")
            .shows("0# 'a'", "''").shows("$ 'a'", "'.a.'").shows("*$ 'a'", "'.'").shows("1#$ 'a'", ",'.'").shows("'.'", "'.'")
            .shows("$$ 'a'", "'..a..'");
        check.does("$ 'a'");
        Check.same("the ' that a dot is printed for", check.calc.item(0), '\'');
    }

    private static void rows() {
        Doc.says("INTS, LONGS: their numbers, a blank between two (none: !0; one: a , ahead);")
            .shows("1 _2 3", "1 _2 3").shows("5 3000000000", "5 3000000000").shows("!0", "!0").shows("0#3000000000", "!0")
            .shows(",5", ",5").shows(",_5", ",_5").shows(",3000000000", ",3000000000").shows("1#5 3000000000", ",5")
            .shows("0 0", "0 0");
    }

    private static void bits() {
        Doc.says("BITS: digits 0 and 1, then b;")
            .shows("1 0 1=1", "101b").shows("1=,1", "1b").shows("1=,0", "0b").shows("1=!0", "b");
    }

    private static void tables() {
        Doc.says("a TABLE: its LINES' numbers so, with a ; between two LINES, in [ ];")
            .shows("2 2#1 _2 3 4", "[1 _2;3 4]").shows("1 3#1 2 3", "[1 2 3]").shows("1 1#5", "[5]").shows("3 1#1 2 3", "[1;2;3]")
            .shows("3 2#0", "[0 0;0 0;0 0]");
    }

    private static void nests() {
        Doc.says("a NEST: its values, with a ; between two, in ( ).")
            .shows("()", "()").shows(",1 2", "(1 2)").shows("1#(5;'a')", "(5)").shows("(1;'a')", "(1;'a')")
            .shows("(1;'a';'bc';2 3;();1 1#5;,4;1=1 2;!0)", "(1;'a';'bc';2 3;();[5];,4;10b;!0)").shows(",,,,,1", "((((,1))))");
    }

    private static void print() {
        Check check = Doc.says("`int print()`: The value at the POINTER is PRINTED: how many bytes");
        Check.same("of a new object", check.calc.print(), 1);
        check.does("a: 'xyz'", "b: 10 20", "(1;2 3 4)");
        Check.same("the RESULT", check.calc.print(), 9);
        check.calc.point(2, 1);
        Check.same("its item", check.calc.print(), 5);
        Check.same("its item (bytes)", check.printed(), "2 3 4");
        check.calc.point(1, 0);
        Check.same("a", check.printed(), "'xyz'");
        check.calc.point(1, 1);
        Check.same("b", check.printed(), "10 20");
        Check.same("print changes nothing", check.printed(), "10 20");
        check.does("1=!0");
        Check.same("one byte", check.calc.print(), 1);
    }

    private static void atMost400() {
        Check check = Doc.says("(400 at most are kept, and told).").does("120#_2147483648");
        Check.same("bytes told", check.calc.print(), 400);
        Check.same("byte 0", check.calc.octet(0), '_');
        Check.same("byte 399", check.calc.octet(399), "_2147483648 ".charAt(399 % 12));
        Check.same("byte 400", check.calc.octet(400), -1);
        Check.same("byte 401", check.calc.octet(401), -1);
        check.does("(99#100),,123");
        Check.same("396 and 3", check.calc.print(), 399);
        Check.same("byte 399 of 399", check.calc.octet(399), -1);
        check.does("(99#100),,1234");
        Check.same("396 and 4", check.calc.print(), 400);
        Check.same("the last byte of 400", check.calc.octet(399), '4');
        check.does("(99#100),,12345");
        Check.same("396 and 5", check.calc.print(), 400);
        Check.same("the fifth is not kept", check.calc.octet(399), '4');
        // SIGNS: 4 rows of 97 with their two ', the ( and ; between: 401 with the ) that is left out.
        check.does("s: 97# 'a'", "(s;s;s;s)");
        Check.same("1 and 4 times 99 and 3", check.calc.print(), 400);
        Check.same("the last ' is kept", check.calc.octet(399), '\'');
        check.does("s: 97# 'a'", "(s;s;s;96# 'a')");
        Check.same("the ) is kept", check.calc.print(), 400);
        Check.same("the ) is the last byte", check.calc.octet(399), ')');
    }

    private static void octets() {
        Check check = Doc.says("`int octet(int k)`: Byte k of what print() made the last time; NONE if there is none.");
        Check.same("ahead of print", check.calc.octet(0), -1);
        check.does("'xyz'");
        Check.same("a line prints nothing", check.calc.octet(0), -1);
        Check.same("print", check.calc.print(), 5);
        Check.same("octet 0", check.calc.octet(0), '\'');
        Check.same("octet 1", check.calc.octet(1), 'x');
        Check.same("octet 4", check.calc.octet(4), '\'');
        for (int k : new int[] {5, -1, 400, Integer.MAX_VALUE, Integer.MIN_VALUE}) {
            Check.same("octet " + k, check.calc.octet(k), -1);
        }
        check.does("$12345");
        Check.same("what print made stays", check.calc.octet(1), 'x');
        check.calc.point(0, 0);
        check.calc.keep(0);
        check.calc.back(0);
        Check.same("still", check.calc.octet(1), 'x');
        check.does("7");
        Check.same("print again", check.calc.print(), 1);
        Check.same("octet 0 then", check.calc.octet(0), '7');
        Check.same("octet 1 then", check.calc.octet(1), -1);
    }
}
