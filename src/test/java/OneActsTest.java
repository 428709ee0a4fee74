/** Promise 3, PART 1 and PART 3: values, and the acts with one value. */
public final class OneActsTest {
    public static void main(String[] args) {
        gathered();
        flip();
        through();
        firstAndTurned();
        where();
        ordered();
        groupsAndUnlike();
        placesAndOneMore();
        read();
        countShapeKind();
        text();
        levelsAndSizes();
        Check.end();
    }

    private static void gathered() {
        new Check()
            .shows("()", "()", 7)
            .shows("(1;2)", "1 2", 4)
            .shows("(1;3000000000)", "1 3000000000", 5)
            .shows("('a';'b')", "'ab'", 3)
            .shows("(1;'a')", "(1;'a')", 7)
            .shows("(1 2;3)", "(1 2;3)", 7)
            .shows("(();())", "(();())", 7)
            .shows("((5))", "5", 0)
            .shows("(1 2=1 3;2)", "(10b;2)", 7)
            .shows("#(1" + ";1".repeat(80) + ")", "81")
            .shows("#('a'" + ";1".repeat(23) + ")", "24")
            .fails("#('a'" + ";1".repeat(24) + ")", 8, 1);
    }

    private static void flip() {
        new Check()
            .shows("+2 3#1 2 3 4 5 6", "[1 4;2 5;3 6]", 6)
            .shows("+1 3#1 2 3", "[1;2;3]", 6)
            .shows("+5", "5", 0)
            .shows("+ 'ab'", "'ab'", 3)
            .shows("+(1;2 3)", "(1;2 3)", 7);
    }

    private static void through() {
        new Check()
            .shows("-5", "_5", 0)
            .shows("-1 _2 0", "_1 2 0", 4)
            .shows("-,_2147483648", ",2147483648", 5)
            .shows("-,2147483648", ",_2147483648", 4)
            .shows("-1 0=1 1", "_1 0", 4)
            .shows("-2 2#1 _2 3 0", "[_1 2;_3 0]", 6)
            .fails("-1 1#_2147483648", 6, 0)
            .shows("-(1;2 3;(4;()))", "(_1;_2 _3;(_4;()))", 7)
            .fails("- 'a'", 5, 0)
            .fails("-(1;'ab')", 5, 0)
            .shows("-0# 'ab'", "!0", 4)
            .shows("~0# 'ab'", "b", 2)
            .shows("%_7", "_1", 0)
            .shows("%5 0 _5", "1 0 _1", 4)
            .shows("%1 2#9 _9", "[1 _1]", 6)
            .fails("% 'ab'", 5, 0)
            .shows("~0", "1", 0)
            .shows("~5", "0", 0)
            .shows("~0 1 2 0", "1001b", 2)
            .shows("~1 2#0 3", "[1 0]", 6)
            .shows("~(0;3 0)", "(1;01b)", 7)
            .fails("~ 'a'", 5, 0)
            // The least number of all can't be negated.
            .shows("least: (_1*8*1024*1024)*1024*1024*1024*1024*1024", "error 6 at 23");
        new Check()
            .shows("m: 9223372036*1000000000", "9223372036000000000")
            .shows("m: (_854775807-m)", "_9223372036854775807")
            .shows("-m", "9223372036854775807")
            .shows("m: m-1", "_9223372036854775808", 0)
            .fails("-m", 6, 0)
            .fails("-,m", 6, 0)
            .shows("%m", "_1")
            .shows("-1+m", "9223372036854775807");
    }

    private static void firstAndTurned() {
        new Check()
            .shows("*7", "7")
            .shows("*7 8", "7", 0)
            .shows("* 'xy'", "'x'", 1)
            .shows("*2 2#1 2 3 4", "1 2", 4)
            .shows("*(1 2;3)", "1 2", 4)
            .shows("*1 2=1 2", "1", 0)
            .fails("*!0", 4, 0)
            .fails("*()", 4, 0)
            .shows("|1 2 3", "3 2 1", 4)
            .shows("|1 2 3=1 2 4", "011b", 2)
            .shows("| 'abc'", "'cba'", 3)
            .shows("|2 2#1 2 3 4", "[3 4;1 2]", 6)
            .shows("|(1;'a';2 3)", "(2 3;'a';1)", 7)
            .shows("|5", "5", 0)
            .shows("|()", "()", 7)
            .shows("|3000000000 1", "1 3000000000", 5);
    }

    private static void where() {
        new Check()
            .shows("&0 1 2 0 3", "1 2 2 4 4 4", 4)
            .shows("&1 2 3=1 5 3", "0 2", 4)
            .shows("&!0", "!0", 4)
            .shows("&0 0", "!0", 4)
            .shows("#&,120", "120")
            .fails("&,121", 8, 0)
            .fails("&60 61", 8, 0)
            .fails("&120 0 1", 8, 0)
            .fails("&1 _1", 5, 0)
            .fails("&_1 121", 5, 0)
            .fails("&121 _1", 8, 0)
            .fails("&3", 3, 0)
            .fails("&(1;'a')", 3, 0)
            .fails("&2 2#1", 3, 0)
            .fails("& 'ab'", 5, 0)
            .fails("&0# 'ab'", 5, 0)
            .fails("&,999999999999999999", 8, 0);
    }

    private static void ordered() {
        new Check()
            .shows("<3 1 2 1", "1 3 2 0", 4)
            .shows(">3 1 2 1", "0 2 1 3", 4)
            .shows("<'b'", "error 1 at 3")
            .shows("< 'bab'", "1 0 2", 4)
            .shows("> 'bab'", "0 2 1", 4)
            .shows("<!0", "!0", 4)
            .shows(">1 2 1=1 1 1", "0 2 1", 4)
            .shows("<5 _3000000000", "1 0", 4)
            .fails("<5", 3, 0)
            .fails(">2 2#1", 3, 0)
            .fails("<(1;'a')", 3, 0)
            .shows("^3 1 2 1", "1 1 2 3", 4)
            .shows("^ 'hello'", "'ehllo'", 3)
            .shows("^1 2 1=1 1 1", "011b", 2)
            .shows("^3000000000 _1", "_1 3000000000", 5)
            .shows("^0# 'ab'", "''", 3)
            .fails("^5", 3, 0)
            .fails("^ 'a'", 3, 0)
            .fails("^()", 3, 0)
            .fails("^2 2#1", 3, 0);
    }

    private static void groupsAndUnlike() {
        new Check()
            .shows("=7 8 7 9 8", "(0 2;1 4;,3)", 7)
            .shows("= 'abca'", "(0 3;,1;,2)", 7)
            .shows("=!0", "()", 7)
            .shows("=1 2=1 3", "(,0;,1)", 7)
            .shows("#=!24", "24")
            .fails("=!25", 8, 0)
            .fails("=5", 3, 0)
            .fails("=()", 3, 0)
            .fails("=2 2#1", 3, 0)
            .shows("?3 1 3 2 1", "3 1 2", 4)
            .shows("? 'hello'", "'helo'", 3)
            .shows("?1 1 2=1 1 1", "10b", 2)
            .shows("?5", "5", 0)
            .shows("?3 2#1 2 3 4 1 2", "(1 2;3 4)", 7)
            .shows("?(1;'a';1;2 3;1 2 3;2 3)", "(1;'a';2 3;1 2 3)", 7)
            .shows("?(0 1;1 2=2 2;'a';,'a')", "error 1 at 21")
            .shows("?(0 1;1 2=2 2;'a';(, 'a'))", "(0 1;'a';,'a')", 7)
            .shows("?(1;1)", ",1", 4)
            .shows("?()", "()", 7)
            .shows("?3000000000 3000000000", ",3000000000", 5);
    }

    private static void placesAndOneMore() {
        new Check()
            .shows("!5", "0 1 2 3 4", 4)
            .shows("!0", "!0", 4)
            .shows("#!120", "120")
            .fails("!121", 5, 0)
            .fails("!_1", 5, 0)
            .fails("! 'a'", 5, 0)
            .fails("!,1", 3, 0)
            .fails("!()", 3, 0)
            .fails("!2 2#1", 3, 0)
            .shows(",5", ",5", 4)
            .shows(",3000000000", ",3000000000", 5)
            .shows(", 'a'", ",'a'", 3)
            .shows(",1 2", "(1 2)", 7)
            .shows(",,5", "(,5)", 7)
            .shows(",()", "(())", 7)
            .shows(",2 2#1", "([1 1;1 1])", 7);
    }

    private static void read() {
        new Check()
            .shows(". '12 _3  4'", "12 _3 4", 4)
            .shows(". '  7 '", ",7", 4)
            .shows(". '5'", ",5", 4)
            .shows(". ' '", "!0", 4)
            .shows(".0# 'ab'", "!0", 4)
            .shows(". '3000000000'", ",3000000000", 5)
            .shows(". '999999999999999999'", ",999999999999999999", 5)
            .fails(". '1234567890123456789'", 5, 0)
            .fails(". '12x'", 5, 0)
            .fails(". '1_2'", 5, 0)
            .fails(". '_'", 5, 0)
            .fails(". '__1'", 5, 0)
            .fails(". '_ 1'", 5, 0)
            .fails(". '1,2'", 5, 0)
            .fails(". 'x'", 5, 0)
            .fails(".5", 3, 0)
            .fails(".1 2", 3, 0)
            .fails(".()", 3, 0)
            .fails(".2 2#1", 3, 0);
    }

    private static void countShapeKind() {
        new Check()
            .shows("#5", "1", 0)
            .shows("# 'a'", "1", 0)
            .shows("# 'abc'", "3", 0)
            .shows("#2 3#0", "2", 0)
            .shows("#()", "0", 0)
            .shows("#(1;'a')", "2", 0)
            .shows("_ 5", "!0", 4)
            .shows("_ 'abc'", ",3", 4)
            .shows("_ 2 3#0", "2 3", 4)
            .shows("_(1;'a';())", ",3", 4)
            .shows("_()", ",0", 4)
            .shows("@5", "0", 0)
            .shows("@ 'a'", "1", 0)
            .shows("@1=,1", "2", 0)
            .shows("@ 'ab'", "3", 0)
            .shows("@!3", "4", 0)
            .shows("@,3000000000", "5", 0)
            .shows("@2 2#1", "6", 0)
            .shows("@()", "7", 0);
    }

    private static void text() {
        new Check()
            .shows("$5", ",'5'", 3)
            .shows("$_12", "'_12'", 3)
            .shows("$1 2", "'1 2'", 3)
            .shows("$ 'ab'", "'.ab.'", 3)
            .shows("$()", "'()'", 3)
            .shows("#$60#1", "119")
            .shows("#$(59#1),10", "120")
            .fails("$(59#1),100", 8, 0)
            .fails("$61#1", 8, 0);
    }

    private static void levelsAndSizes() {
        new Check()
            .shows(",,,,,1", "((((,1))))", 7)
            .fails(",,,,,,1", 8, 0)
            .fails(",,,,2 2#1", 8, 0)
            .shows(",,,2 2#1", "((([1 1;1 1])))", 7)
            .fails("(1;,,,,,1)", 8, 0)
            .shows("#r: !120", "error 1 at 2")
            .takes("r: !120", 125)
            // Eight rows of 121 each, one of 30, one of 1, and the NEST's own 1: 1000.
            .shows("#(r;r;r;r;r;r;r;r;29#1;!0)", "10")
            .fails("#(r;r;r;r;r;r;r;r;30#1;!0)", 8, 1)
            .takes("n: (r;r;r;r;r;r;r;r;29#1;!0)", 3 + 1 + 1 + 30 + 3 + 1 + 1 + 1003)
            .shows("#-n", "10")
            .shows("#n+0", "10")
            .shows("#n=n", "10")
            .fails("n,0", 8, 1)
            .takes("m: (1;'a';1;1;1;1;1;1;1;1)", 3 + 11)
            .fails("m=r", 8, 1)
            .takes("m: 8#m", 3 + 1 + 11 + 9)
            .takes("m=r", 3 + 9 + 121 + 1 + 8 * 121)
            .fails("m<r", 5, 1);
    }
}
