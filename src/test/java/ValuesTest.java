/** PART 1, but for the WORK: what values there are, how great they may be, and which are SAME. */
public final class ValuesTest {
    /** A line that makes r a row of SIZE 121, and one that makes a NEST of it and so much more. */
    private static final String ROW = "r: !120";
    private static final String EIGHT_ROWS = "(r;r;r;r;r;r;r;r;";

    public static void main(String[] args) {
        all();
        Check.end();
    }

    static void all() {
        ones();
        rows();
        tables();
        nests();
        items();
        levels();
        sizes();
        mostLevels();
        mostSize();
        numberRows();
        gathered();
        gatheredTooMany();
        same();
    }

    private static void ones() {
        Check check = Doc.says("PART 1. VALUES. ONE is a NUMBER (64 bits with a sign) or a SIGN (a byte, 0 to 255).")
            .shows("854775807+9223372036*1000000000", "9223372036854775807", 0)
            .shows("_854775808-9223372036*1000000000", "_9223372036854775808", 0)
            .fails("854775808+9223372036*1000000000", 6, 9)
            .fails("_854775809-9223372036*1000000000", 6, 10)
            .shows("' '", "' '", 1);
        Check.same("byte of a blank", check.calc.item(0), 32);
        check.shows("'~'", "'~'", 1);
        Check.same("byte of ~", check.calc.item(0), 126);
    }

    private static void rows() {
        Doc.says("A ROW has 0 to 120 ONEs of one KIND: BITS (numbers 0 and 1), SIGNS, INTS (numbers of 32 bits with a "
                + "sign), LONGS (of 64).")
            .has("1=!0", 2, 0).has("1=!120", 2, 120)
            .has("0# 'a'", 3, 0).has("120# 'a'", 3, 120)
            .has("!0", 4, 0).has("!120", 4, 120)
            .has("0#3000000000", 5, 0).has("120#3000000000", 5, 120)
            .has("2147483647 _2147483648", 4, 2)
            .has("2147483648 1", 5, 2)
            .has("1 _2147483649", 5, 2)
            .shows("9223372036 1*1000000000 1", "9223372036000000000 1", 5)
            .fails("(1=!120),1=,1", 8, 8)
            .fails("(120# 'a'), 'a'", 8, 10)
            .fails("(!120),1", 8, 6)
            .fails("(120#3000000000),1", 8, 16);
    }

    private static void tables() {
        Check check = Doc.says("A TABLE has 1 to 12 LINES of 1 to 12 numbers of 32 bits each, all as long.")
            .has("1 1#5", 6, 1);
        Check.same("columns", check.calc.count(1), 1);
        check.has("12 12#5", 6, 12);
        Check.same("most columns", check.calc.count(1), 12);
        check.fails("13 12#5", 5, 5).fails("12 13#5", 5, 5).fails("0 1#5", 5, 3).fails("1 0#5", 5, 3)
            .shows("1 2#2147483647 _2147483648", "[2147483647 _2147483648]", 6)
            .fails("1 1#2147483648", 6, 3)
            .fails("1 1#_2147483649", 6, 3)
            .shows("(1 2#1 2),1 3#3 4 5", "(1 2;3 4 5)", 7);
    }

    private static void nests() {
        Doc.says("A NEST has 0 to 24 VALUES of any sort.")
            .has("()", 7, 0)
            .has("24#,()", 7, 24)
            .fails("25#,()", 8, 2)
            .shows("@'(1;'a';1=1 2;'ab';1 2;1 3000000000;2 2#1;())", "0 1 2 3 4 5 6 7", 4);
    }

    private static void items() {
        Doc.says("ITEMS, by places from 0 on: of a ROW its ONEs, of a TABLE its LINES (as INTS), of a NEST its values, "
                + "of ONE it itself; COUNT: how many.")
            .shows("(1 2=1 3)@(1)", "0", 0)
            .shows("'ab'@(0)", "'a'", 1)
            .shows("5 6 7@(2)", "7", 0)
            .shows("1 3000000000@(0)", "1", 0)
            .shows("(2 2#0 1 1 0)@(1)", "1 0", 4)
            .shows("(1;'a';2 3)@(2)", "2 3", 4)
            .shows("*7", "7", 0)
            .shows("* 'a'", "'a'", 1)
            .shows("#'(1;'a';1 2 3;'ab';2 3#0;3 2#0;(1;'a');();!0)", "1 1 3 2 2 3 2 0 0", 4);
    }

    private static void levels() {
        Doc.says("LEVELS: of ONE 0, of a ROW 1, of a TABLE 2, of a NEST one more than the greatest of its values' (1 "
                + "without any).")
            .levels("5", 0).levels("'a'", 0)
            .levels("!0", 1).levels("'ab'", 1).levels("1=1 2", 1).levels("1 3000000000", 1)
            .levels("1 1#5", 2)
            .levels("()", 1).levels("(1;'a')", 1).levels("(1;())", 2).levels("(1 2;(1;2 2#0);3)", 4).levels(",2 2#1", 3)
            .levels("(,,1 2;3)", 4).levels(",,,,,1", 5);
    }

    private static void sizes() {
        // FLIP makes as much as it is given, so it takes 3 and twice the SIZE.
        Doc.says("SIZE: of ONE 1, of a ROW 1 and its COUNT, of a TABLE 1 and all its numbers, of a NEST 1 and its "
                + "values' SIZES.")
            .takes("+5", 5).takes("+ 'a'", 5)
            .takes("+1 2 3", 11).takes("+ 'ab'", 9)
            .does("a: !0", "b: 1=!120", "c: 12 12#1", "d: ()", "e: (1;'a';2 3)", "g: ((1;'a');();2 2#1)")
            .takes("+a", 5).takes("+b", 3 + 2 * 121).takes("+c", 3 + 2 * 145).takes("+d", 5)
            .takes("+e", 3 + 2 * 6).takes("+g", 3 + 2 * (1 + 3 + 1 + 5));
    }

    private static void mostLevels() {
        Doc.says("What is made has at most 5 LEVELS and a SIZE of 1,000 (else error 8).")
            .levels(",,,,,1", 5).fails(",,,,,,1", 8, 0)
            .levels(",,,2 2#1", 5).fails(",,,,2 2#1", 8, 0)
            .levels("(1;,,,,1)", 5).fails("(1;,,,,,1)", 8, 0)
            // d is NESTS around ONE: with a ROW, or a TABLE, it would have one LEVEL more, or two.
            .does("d: ,,,,1#(5;'a')").levels("d-1", 5).fails("d-!0", 8, 1).fails("d=2 2#0", 8, 1)
            .does("e: ,,,1#(5;'a')").levels("e-!0", 5).fails("e-2 2#0", 8, 1)
            .does("f: {,,,,x}", "g: {,,,,,x}").levels("f'1 2", 5).fails("1+g'1 2", 8, 2)
            .levels("1 f\\!0", 1).levels("(,,,,1)f\\!0", 5).fails("(,,,,,1)f\\!0", 8, 8)
            .does("z: 1 2").levels("z@(0): ,,,,1", 5).does("z: 1 2").fails("z@(0): ,,,,,1", 8, 1);
    }

    private static void mostSize() {
        Check.of("a SIZE of 1,000");
        new Check().does(ROW)
            .does("n: " + EIGHT_ROWS + "29#1;!0)").takes("+n", 2003)
            .fails(" " + EIGHT_ROWS + "30#1;!0)", 8, 1)
            .fails(",n", 8, 0).fails("n,0", 8, 1)
            .takes("-n", 2003).takes("n=n", 3003).takes("1+n", 2004)
            .does("m: " + EIGHT_ROWS + "29#1)")
            .takes("m,0", 3 + 999 + 1 + 1000).fails("m,,,0", 8, 1).takes(",m", 3 + 999 + 1000)
            .does("z: m,0").does("z@(9): 5").does("z@(9): !0").fails("z@(9): ,1", 8, 1);
        new Check().does(ROW, "o: (1;'a';1;1;1;1;1;1)")
            .takes("o=r", 3 + 9 + 121 + 969).does("o: o,1").fails("o=r", 8, 1)
            .does("p: (8#119),38").has("!'p", 7, 9).fails("!'p+8=!9", 8, 0);
    }

    private static void numberRows() {
        Doc.says("A NUMBER ROW of some numbers is INTS when all of them fit 32 bits (none, too), else LONGS.")
            .shows("2147483647 _2147483648", "2147483647 _2147483648", 4)
            .shows("1 2147483648", "1 2147483648", 5)
            .shows("_2147483649 1", "_2147483649 1", 5)
            .shows("3000000000 3000000000-3000000000", "0 0", 4)
            .shows("-0#3000000000", "!0", 4)
            .shows("1+2147483646 0", "2147483647 1", 4)
            .shows("1+2147483647 0", "2147483648 1", 5);
    }

    private static void gathered() {
        Doc.says("GATHERED values are: when all are NUMBERS (at least one) their NUMBER ROW, when all are SIGNS a row of "
                + "SIGNS, else (none at all, too) a NEST of them")
            .shows("(1;2)", "1 2", 4)
            .shows("(1;3000000000)", "1 3000000000", 5)
            .shows("-'5", ",_5", 4)
            .shows("('a';'b')", "'ab'", 3)
            .shows("+' 'a'", ",'a'", 3)
            .shows("(1;'a')", "(1;'a')", 7)
            .shows("('a';'b';1)", "('a';'b';1)", 7)
            .shows("(1 2;3)", "(1 2;3)", 7)
            .shows("(,1;,2)", "(,1;,2)", 7)
            .shows("()", "()", 7)
            .shows("-'!0", "()", 7)
            .shows("(();())", "(();())", 7)
            .shows("(1 2=1 3;2)", "(10b;2)", 7);
    }

    private static void gatheredTooMany() {
        Doc.says("(more than 120, of a NEST 24: error 8).")
            .does("f: {y}")
            .has("0+\\!119", 4, 120).fails("0+\\!120", 8, 1)
            .has("'a'f\\119# 'b'", 3, 120).fails("'a'f\\120# 'b'", 8, 3)
            .has("-'!120", 4, 120)
            .has("('a'" + ";1".repeat(23) + ")", 7, 24).fails(" ('a'" + ";1".repeat(24) + ")", 8, 1)
            .has("(1" + ";1".repeat(80) + ")", 4, 81)
            .has(",'!24", 7, 24).fails("1+ ,'!25", 8, 3)
            .has("'a'f\\!23", 7, 24).fails("'a'f\\!24", 8, 3);
    }

    private static void same() {
        Doc.says("SAME are two ONEs of one sort with one number;")
            .shows("1~1", "1", 0).shows("1~2", "0").shows("97~ 'a'", "0").shows("'a'~97", "0").shows("'a'~ 'a'", "1")
            .shows("'a'~ 'b'", "0").shows("1~,1", "0").shows("(, 'a')~ 'a'", "0").shows("0~!0", "0").shows("0~()", "0");
        Doc.says("two rows of numbers (BITS, INTS, LONGS alike) with the same items; two rows of SIGNS;")
            .shows("0 1~1 1=0 1", "1").shows("(1#1 3000000000)~,1", "1").shows("(1=,1)~1#1 3000000000", "1")
            .shows("(!0)~0=!0", "1").shows("(!0)~0#3000000000", "1").shows("1 2~3 2", "0").shows("1 2~1 3", "0")
            .shows("'ab'~ 'ab'", "1").shows("'ab'~ 'cb'", "0").shows("'ab'~97 98", "0").shows("97 98~ 'ab'", "0")
            .shows("(!0)~0# 'a'", "0").shows("(0# 'a')~!0", "0").shows("(0# 'a')~0# 'b'", "1");
        Doc.says("two TABLES; two NESTS; each with as many items, each the same; nothing else.")
            .shows("(2 2#1)~2 2#1", "1").shows("(2 2#1 2)~2 2#1 2 1 3", "0").shows("(1 4#1)~2 2#1", "0")
            .shows("(2 3#1)~2 2#1", "0").shows("(3 2#1)~2 2#1", "0").shows("(1 2#1 2)~1 2", "0").shows("1 2~1 2#1 2", "0")
            .shows("(1 2;3 4)~2 2#1 2 3 4", "0").shows("(2 2#1 2 3 4)~(1 2;3 4)", "0")
            .shows("()~()", "1").shows("(!0)~()", "0").shows("()~!0", "0").shows("()~0# 'a'", "0")
            .shows("(1;'a';2 3)~(1;'a';2 3)", "1").shows("(1;'a';2 3)~(1;'a';2 4)", "0")
            .shows("(1;'a';2 3)~(1;'a')", "0").shows("(1;(2;'a'))~(1;(2;'a'))", "1").shows("(1;(2;'a'))~(1;(2;'b'))", "0")
            .shows("(0 1;'a')~(1 2=2 2;'a')", "1").shows("(1#(1;'a'))~,1", "0").shows("1 2~1 2 3", "0");
    }
}
