/** PART 3: the acts with one value. */
public final class OneActsTest {
    private static final String SORTS = "(1;'a';1=1 2;'ab';1 2;1 3000000000;2 2#1;())";

    public static void main(String[] args) {
        all();
        Check.end();
    }

    static void all() {
        through();
        throughSigns();
        flip();
        negated();
        firstAndWay();
        not();
        where();
        whereTooMuch();
        turned();
        order();
        sorted();
        groups();
        unlike();
        placesAndOneMore();
        read();
        readWrong();
        countAndShape();
        kind();
        text();
    }

    private static void through() {
        Doc.says("PART 3. ACTS WITH ONE VALUE w. THROUGH: of ONE its number, of a ROW each item (a NUMBER ROW), of a TABLE each "
                + "number (a TABLE), of a NEST each value (a NEST);")
            .shows("-5", "_5", 0).shows("-1 _2 0", "_1 2 0", 4).shows("-1 0=1 1", "_1 0", 4)
            .shows("-,2147483648", ",_2147483648", 4).shows("-,_2147483648", ",2147483648", 5)
            .shows("-2 2#1 _2 3 0", "[_1 2;_3 0]", 6).shows("-(1;2 3;(4;()))", "(_1;_2 _3;(_4;()))", 7).shows("-()", "()", 7)
            .shows("-!0", "!0", 4).shows("-(1 1#5;1=,1)", "([_5];,_1)", 7).shows("%(1 _2;_3)", "(1 _1;_1)", 7);
    }

    private static void throughSigns() {
        Doc.says("a SIGN is error 5 (SIGNS without items are none).")
            .fails("- 'a'", 5, 0).fails("- 'ab'", 5, 0).fails("-(1;'a')", 5, 0).fails("-(1;(2;'ab'))", 5, 0)
            .fails("% 'a'", 5, 0).fails("% 'ab'", 5, 0).fails("~ 'a'", 5, 0).fails("~ 'ab'", 5, 0)
            .shows("-0# 'ab'", "!0", 4).shows("%0# 'ab'", "!0", 4).shows("~0# 'ab'", "b", 2).shows("-(1;0# 'ab')", "(_1;!0)", 7);
    }

    private static void flip() {
        Doc.says("+ FLIP: of a TABLE lines and columns exchanged; else w.")
            .shows("+2 3#1 2 3 4 5 6", "[1 4;2 5;3 6]", 6).shows("+1 3#1 2 3", "[1;2;3]", 6).shows("+3 1#1 2 3", "[1 2 3]", 6)
            .has("+12 1#1", 6, 1).has("+1 12#1", 6, 12)
            .shows("+5", "5", 0).shows("+ 'a'", "'a'", 1).shows("+ 'ab'", "'ab'", 3).shows("+1 2=1 3", "10b", 2)
            .shows("+(1;2 3)", "(1;2 3)", 7).shows("+,2 1#1 2", "([1;2])", 7);
    }

    private static void negated() {
        Doc.says("- NEGATED, THROUGH.")
            .shows("- -5", "5", 0).does("m: 854775807+9223372036*1000000000", "n: (-m)-1")
            .fails("-n", 6, 0).fails("-,n", 6, 0).fails("-(1;n)", 6, 0)
            .shows("-m", "_9223372036854775807", 0).shows("-n+1", "9223372036854775807", 0).shows("-0", "0", 0)
            .fails("-1 1#_2147483648", 6, 0).shows("-1 1#_2147483647", "[2147483647]", 6)
            .shows("-1 1#2147483647", "[_2147483647]", 6)
            .fails("-(_2147483648;1 1#_2147483648)", 6, 0);
    }

    private static void firstAndWay() {
        Doc.says("* FIRST: its item 0 (none: 4).")
            .shows("*7", "7", 0).shows("*7 8", "7", 0).shows("* 'xy'", "'x'", 1).shows("* 'x'", "'x'", 1)
            .shows("*2 2#1 2 3 4", "1 2", 4).shows("*(1 2;3)", "1 2", 4).shows("*1 2=1 2", "1", 0).shows("*,()", "()", 7)
            .fails("*!0", 4, 0).fails("*()", 4, 0).fails("*0# 'a'", 4, 0).fails("*1=!0", 4, 0).fails("*0#3000000000", 4, 0);
        Doc.says("% WAY: 1, 0 or -1 as it is above, at or below 0, THROUGH.")
            .shows("%_7", "_1", 0).shows("%0", "0", 0).shows("%1", "1", 0).shows("%_1", "_1", 0).shows("%5 0 _5", "1 0 _1", 4)
            .shows("%1 2#9 _9", "[1 _1]", 6).shows("%3000000000 _3000000000", "1 _1", 4).shows("%1=1 2", "1 0", 4)
            .does("m: _854775808-9223372036*1000000000").shows("%m", "_1", 0);
    }

    private static void not() {
        Doc.says("~ NOT, THROUGH: 1 of 0, else 0 (of a ROW: BITS).")
            .shows("~0", "1", 0).shows("~5", "0", 0).shows("~_1", "0", 0).shows("~1", "0", 0).shows("~0 1 2 0", "1001b", 2)
            .shows("~!0", "b", 2).shows("~0 3000000000", "10b", 2).shows("~1 2=1 3", "01b", 2)
            .shows("~1 2#0 3", "[1 0]", 6).shows("~(0;3 0;())", "(1;01b;())", 7);
    }

    private static void where() {
        Doc.says("& WHERE: of a ROW of numbers (else 3; SIGNS 5) each place as often as its item tells (below 0: 5): a NUMBER "
                + "ROW")
            .shows("&0 1 2 0 3", "1 2 2 4 4 4", 4).shows("&1 2 3=1 5 3", "0 2", 4).shows("&!0", "!0", 4).shows("&0 0", "!0", 4)
            .shows("&1=!0", "!0", 4).shows("&0#3000000000", "!0", 4).shows("&2#1 2 3000000000", "0 1 1", 4)
            .fails("&3", 3, 0).fails("& 'a'", 3, 0).fails("&()", 3, 0).fails("&(1;'a')", 3, 0).fails("&2 2#1", 3, 0)
            .fails("& 'ab'", 5, 0).fails("&0# 'ab'", 5, 0).fails("&1 _1", 5, 0).fails("&,_1", 5, 0).fails("&_3000000000 1", 5, 0);
    }

    private static void whereTooMuch() {
        Doc.says("(more than 120: 8), item by item.")
            .has("&,120", 4, 120).fails("&,121", 8, 0).has("&60 60", 4, 120).fails("&60 61", 8, 0).fails("&120 0 1", 8, 0)
            .has("&120 0", 4, 120).fails("&,999999999999999999", 8, 0).fails("&1 999999999999999999", 8, 0)
            .fails("&121 _1", 8, 0).fails("&_1 121", 5, 0).fails("&60 61 _1", 8, 0).fails("&60 60 _1", 5, 0);
    }

    private static void turned() {
        Doc.says("| TURNED: the items from the last to the first (a ROW of its KIND, a TABLE, a NEST; ONE: itself).")
            .shows("|1 2 3", "3 2 1", 4).shows("|1 2 3=1 2 4", "011b", 2).shows("| 'abc'", "'cba'", 3)
            .shows("|3000000000 1", "1 3000000000", 5).shows("|1#1 3000000000", ",1", 5).shows("|2 2#1 2 3 4", "[3 4;1 2]", 6)
            .shows("|(1;'a';2 3)", "(2 3;'a';1)", 7).shows("|5", "5", 0).shows("| 'a'", "'a'", 1).shows("|()", "()", 7)
            .shows("|!0", "!0", 4).shows("|1 2#1 2", "[1 2]", 6);
    }

    private static void order() {
        Doc.says("< UP, > DOWN: of a ROW (else 3) the places of its items in rising, falling order, alike ones as they stand: "
                + "INTS.")
            .shows("<3 1 2 1", "1 3 2 0", 4).shows(">3 1 2 1", "0 2 1 3", 4).shows("< 'bab'", "1 0 2", 4)
            .shows("> 'bab'", "0 2 1", 4).shows("<!0", "!0", 4).shows("<0# 'a'", "!0", 4).shows(">1 2 1=1 1 1", "0 2 1", 4)
            .shows("<1 1 1", "0 1 2", 4).shows(">1 1 1", "0 1 2", 4).shows("<5 _3000000000", "1 0", 4)
            .shows(">5 _3000000000", "0 1", 4).shows("<_1 1 0", "0 2 1", 4)
            .fails("<5", 3, 0).fails("> 'a'", 3, 0).fails(">2 2#1", 3, 0).fails("<(1;'a')", 3, 0).fails(">()", 3, 0);
    }

    private static void sorted() {
        Doc.says("^ SORTED: the items in rising order, a ROW of its KIND (of a ROW; else 3).")
            .shows("^3 1 2 1", "1 1 2 3", 4).shows("^ 'hello'", "'ehllo'", 3).shows("^1 2 1=1 1 1", "011b", 2)
            .shows("^3000000000 _1", "_1 3000000000", 5).shows("^0# 'ab'", "''", 3).shows("^!0", "!0", 4)
            .shows("^2#2 1 3000000000", "1 2", 5)
            .fails("^5", 3, 0).fails("^ 'a'", 3, 0).fails("^()", 3, 0).fails("^2 2#1", 3, 0).fails("^(1;'a')", 3, 0);
    }

    private static void groups() {
        Doc.says("= GROUPS: of a ROW (else 3) a NEST: for each unlike item, as it first comes, the places of those like it, "
                + "INTS (more than 24: 8).")
            .shows("=7 8 7 9 8", "(0 2;1 4;,3)", 7).shows("= 'abca'", "(0 3;,1;,2)", 7).shows("=!0", "()", 7)
            .shows("=0# 'a'", "()", 7).shows("=1 2=1 3", "(,0;,1)", 7).shows("@'=7 8 7", "4 4", 4).shows("=5 5 5", "(0 1 2)", 7)
            .shows("=1 3000000000 1", "(0 2;,1)", 7).has("=!24", 7, 24).fails("=!25", 8, 0).has("=120#!24", 7, 24)
            .fails("=120#!25", 8, 0).fails("=5", 3, 0).fails("= 'a'", 3, 0).fails("=()", 3, 0).fails("=2 2#1", 3, 0);
    }

    private static void unlike() {
        Doc.says("? UNLIKE: the items that aren't SAME as one ahead (ONE: itself; of a ROW its KIND; of a TABLE or NEST a NEST).")
            .shows("?3 1 3 2 1", "3 1 2", 4).shows("? 'hello'", "'helo'", 3).shows("?1 1 2=1 1 1", "10b", 2)
            .shows("?3000000000 3000000000", ",3000000000", 5).shows("?3#1 1 1 3000000000", ",1", 5).shows("?!0", "!0", 4)
            .shows("?5", "5", 0).shows("? 'a'", "'a'", 1)
            .shows("?3 2#1 2 3 4 1 2", "(1 2;3 4)", 7).shows("?4 2#1 2 3 4 3 4 3 5", "(1 2;3 4;3 5)", 7)
            .shows("?2 1#5", "(,5)", 7)
            .shows("?(1;'a';1;2 3;1 2 3;2 3)", "(1;'a';2 3;1 2 3)", 7).shows("?(0 1;1 2=2 2;'a';(, 'a'))", "(0 1;'a';,'a')", 7)
            .shows("?(1;1)", ",1", 4).shows("?(1;'a';1;'a')", "(1;'a')", 7).shows("?()", "()", 7)
            .shows("?(();();!0;0# 'a';!0)", "(();!0;'')", 7);
    }

    private static void placesAndOneMore() {
        Doc.says("! PLACES: of ONE (else 3), a number 0 to 120 (else 5), INTS 0, 1, .. below it.")
            .shows("!5", "0 1 2 3 4", 4).shows("!0", "!0", 4).shows("!1", ",0", 4).has("!120", 4, 120).shows("*|!120", "119", 0)
            .fails("!121", 5, 0).fails("!_1", 5, 0).fails("! 'a'", 5, 0).fails("!4294967296", 5, 0)
            .fails("!,1", 3, 0).fails("!()", 3, 0).fails("!2 2#1", 3, 0).fails("! 'ab'", 3, 0);
        Doc.says(", ONE MORE: of ONE a ROW of it (a NUMBER ROW, or SIGNS), of others a NEST of w alone.")
            .shows(",5", ",5", 4).shows(",3000000000", ",3000000000", 5).shows(",2147483647", ",2147483647", 4)
            .shows(", 'a'", ",'a'", 3).shows(",1 2", "(1 2)", 7).shows(",,5", "(,5)", 7).shows(",()", "(())", 7)
            .shows(",2 2#1", "([1 1;1 1])", 7).shows(", 'ab'", "('ab')", 7).shows(",1=1 2", "(10b)", 7);
    }

    private static void read() {
        Doc.says(". READ: of SIGNS, or ONE SIGN (else 3): the NUMBERS that they tell, one blank or more between two, ahead and "
                + "behind as one likes: a NUMBER ROW")
            .shows(". '12 _3  4'", "12 _3 4", 4).shows(". '  7 '", ",7", 4).shows(". '5'", ",5", 4).shows(". ' '", "!0", 4)
            .shows(". '   '", "!0", 4).shows(".0# 'ab'", "!0", 4).shows(". '3000000000'", ",3000000000", 5)
            .shows(". '2147483648 1'", "2147483648 1", 5).shows(". '_2147483648'", ",_2147483648", 4)
            .shows(". '_0 00 007'", "0 0 7", 4)
            .has(".120# '1 '", 4, 60).shows("._120$ '7'", ",7", 4).shows(".120$ '7'", ",7", 4).shows(".120# ' '", "!0", 4)
            .fails(".5", 3, 0).fails(".1 2", 3, 0).fails(".()", 3, 0).fails(".2 2#1", 3, 0).fails(".!0", 3, 0)
            .fails(".('a';1)", 3, 0);
    }

    private static void readWrong() {
        Doc.says("(anything else in it, more than 18 digits: 5).")
            .shows(". '999999999999999999'", ",999999999999999999", 5)
            .shows(". '_999999999999999999 1'", "_999999999999999999 1", 5)
            .fails(". '1000000000000000000'", 5, 0).fails(". '_1000000000000000000'", 5, 0).fails(". '0000000000000000001'", 5, 0)
            .fails(". '1 1000000000000000000'", 5, 0)
            .fails(". '12x'", 5, 0).fails(". 'x12'", 5, 0).fails(". '1_2'", 5, 0).fails(". '_'", 5, 0).fails(". '__1'", 5, 0)
            .fails(". '_ 1'", 5, 0).fails(". '1,2'", 5, 0).fails(". 'x'", 5, 0).fails(". '1 2 _'", 5, 0).fails(". '-1'", 5, 0)
            .fails(". '1.5'", 5, 0).fails(". '1 x'", 5, 0).fails(". '/'", 5, 0)
            .fails(". ':'", 5, 0).fails("._120$ 'x'", 5, 0).fails(".120$ 'x'", 5, 0);
    }

    private static void countAndShape() {
        Doc.says("# COUNT: ONE.")
            .shows("#5", "1", 0).shows("# 'a'", "1", 0).shows("# 'abc'", "3", 0).shows("#2 3#0", "2", 0).shows("#()", "0", 0)
            .shows("#(1;'a')", "2", 0).shows("#!0", "0", 0).shows("#!120", "120", 0).shows("#3 4=3 5", "2", 0);
        Doc.says("_ SHAPE: of ONE INTS without items, of a ROW, NEST its COUNT, of a TABLE lines and columns: INTS.")
            .shows("_ 5", "!0", 4).shows("_ 'a'", "!0", 4).shows("_ 'abc'", ",3", 4).shows("_(1;'a';())", ",3", 4)
            .shows("_()", ",0", 4).shows("_!0", ",0", 4).shows("_ 2 3#0", "2 3", 4).shows("_ 12 1#0", "12 1", 4)
            .shows("_ 1 3000000000", ",2", 4);
    }

    private static void kind() {
        Doc.says("@ KIND: ONE: 0 NUMBER, 1 SIGN, 2 BITS, 3 SIGNS, 4 INTS, 5 LONGS, 6 TABLE, 7 NEST.")
            .shows("@'" + SORTS, "0 1 2 3 4 5 6 7", 4).shows("@5", "0", 0).shows("@ 'a'", "1", 0).shows("@1=,1", "2", 0)
            .shows("@ 'ab'", "3", 0).shows("@!3", "4", 0).shows("@,3000000000", "5", 0).shows("@2 2#1", "6", 0)
            .shows("@()", "7", 0).shows("@" + SORTS, "7", 0);
    }

    private static void text() {
        Doc.says("$ TEXT: a row of SIGNS: w as PRINTED (more than 120: 8).")
            .shows("$5", ",'5'", 3).shows("$_12", "'_12'", 3).shows("$1 2", "'1 2'", 3).shows("$ 'ab'", "'.ab.'", 3)
            .shows("$ 'a'", "'.a.'", 3).shows("$()", "'()'", 3).shows("$2 2#1 2 3 4", "'[1 2;3 4]'", 3)
            .shows("$1=1 2", "'10b'", 3)
            .shows("$(1;'a';!0)", "'(1;.a.;!0)'", 3)
            .has("$60#1", 3, 119).has("$(59#1),10", 3, 120).fails("$(59#1),100", 8, 0).fails("$61#1", 8, 0)
            .has("$118# 'a'", 3, 120).fails("$119# 'a'", 8, 0).fails("$!120", 8, 0);
    }
}
