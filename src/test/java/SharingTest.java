/**
 * Promise 3 and 6 to 9, of values that one act made together: they may share what holds them, but
 * each has its own items alone, whatever act it then comes into.
 */
public final class SharingTest {
    public static void main(String[] args) {
        withOneValue();
        withTwoValues();
        same();
        kindsAndLevels();
        amended();
        pointed();
        Check.end();
    }

    /** n is (1;3 5 4;[1 2;3 4];(7 8;9);!0;1 0 1;,6), made by one act. */
    private static Check nested() {
        return new Check()
            .shows("n: -(_1;_3 _5 _4;2 2#_1 _2 _3 _4;(_7 _8;_9);!0;_1 0 _1;,_6)",
                "(1;3 5 4;[1 2;3 4];(7 8;9);!0;1 0 1;,6)", 7)
            .shows("b: ~(1;0 1;(0 0 0;0))", "(0;10b;(111b;1))", 7);
    }

    private static void withOneValue() {
        nested()
            .shows("+n@(2)", "[1 3;2 4]", 6)
            .shows("-n@(1)", "_3 _5 _4", 4)
            .shows("-n@(3)", "(_7 _8;_9)", 7)
            .shows("~n@(5)", "010b", 2)
            .shows("*n@(1)", "3", 0)
            .shows("*n@(2)", "1 2", 4)
            .shows("*n@(3)", "7 8", 4)
            .shows("&n@(1)", "0 0 0 1 1 1 1 1 2 2 2 2", 4)
            .shows("|n@(1)", "4 5 3", 4)
            .shows("|n@(2)", "[3 4;1 2]", 6)
            .shows("|n@(3)", "(9;7 8)", 7)
            .shows("<n@(1)", "0 2 1", 4)
            .shows(">n@(1)", "1 2 0", 4)
            .shows("^n@(1)", "3 4 5", 4)
            .shows("=n@(5)", "(0 2;,1)", 7)
            .shows("(=n@(5))@(1)", ",1", 4)
            .shows("+/(=n@(5))@(0)", "2", 0)
            .shows("?n@(5)", "1 0", 4)
            .shows("?n@(2)", "(1 2;3 4)", 7)
            .shows(",n@(6)", "(,6)", 7)
            .shows("#n@(4)", "0", 0)
            .shows("_n@(2)", "2 2", 4)
            .shows("$n@(1)", "'3 5 4'", 3)
            .shows("@'n", "0 4 6 7 4 4 4", 4)
            .shows("+/'n", "error 4 at 0")
            .shows("+/n@(1)", "12", 0)
            .shows("+\\n@(1)", "3 8 12", 4)
            .shows("+/'n@(2)", "3 7", 4)
            .shows("b@(2)@(0)", "111b", 2)
            .shows("$b", "'(0;10b;(111b;1))'", 3);
    }

    private static void withTwoValues() {
        nested()
            .shows("n@(1)+10", "13 15 14", 4)
            .shows("10 20 30+n@(1)", "13 25 34", 4)
            .shows("n@(2)*n@(2)", "[1 4;9 16]", 6)
            .shows("n@(2)+1", "[2 3;4 5]", 6)
            .shows("n@(1),n@(5)", "3 5 4 1 0 1", 4)
            .shows("n@(2),n@(2)", "[1 2;3 4;1 2;3 4]", 6)
            .shows("n@(2),n@(1)", "(1 2;3 4;3;5;4)", 7)
            .shows("n@(3),n@(1)", "(7 8;9;3;5;4)", 7)
            .shows("b@(1),b@(2)@(0)", "10111b", 2)
            .shows("5#n@(1)", "3 5 4 3 5", 4)
            .shows("3#n@(3)", "(7 8;9;7 8)", 7)
            .shows("_1#n@(2)", "[3 4]", 6)
            .shows("2 3#n@(1)", "[3 5 4;3 5 4]", 6)
            .shows("1 5#n@(2)", "[1 2 3 4 1]", 6)
            .fails("2 2#n@(4)", 4, 3)
            .shows("1_n@(1)", "5 4", 4)
            .shows("1_n@(2)", "[3 4]", 6)
            .shows("n@(1)?4", "2", 0)
            .shows("n@(1)?n@(5)", "3 3 3", 4)
            .shows("n@(2)?3 4", "1", 0)
            .shows("n@(3)?9", "1", 0)
            .shows("n?!0", "4", 0)
            .shows("n?,6", "6", 0)
            .shows("n@(1)@(2 0)", "4 3", 4)
            .shows("n@(2)@(1)@(0)", "3", 0)
            .shows("n@(3)@(0)@(1)", "8", 0)
            .fails("n@(1)@(3)", 7, 5)
            .fails("n@(4)@(0)", 7, 5)
            .shows("n@(1)^3", "5 4", 4)
            .shows("n@(2)^,1 2", "[3 4]", 6)
            .shows("n@(1).n@(5)", "7", 0)
            .shows("n@(2).5 6", "17 39", 4)
            .shows("5 6.n@(2)", "23 34", 4)
            .shows("n@(2).n@(2)", "[7 10;15 22]", 6)
            .shows("(*n@(2))+|n@(2)@(1)", "5 5", 4);
    }

    private static void same() {
        nested()
            .shows("n~-(_1;_3 _5 _4;2 2#_1 _2 _3 _4;(_7 _8;_9);!0;_1 0 _1;,_6)", "1", 0)
            .shows("n~(1;3 5 4;2 2#1 2 3 4;(7 8;9);!0;1 0 1;,6)", "1", 0)
            .shows("n~(1;3 5 4;2 2#1 2 3 4;(7 8;9);!0;1 0 1;,7)", "0", 0)
            .shows("n~(1;3 5 5;2 2#1 2 3 4;(7 8;9);!0;1 0 1;,6)", "0", 0)
            .shows("n~(2;3 5 4;2 2#1 2 3 4;(7 8;9);!0;1 0 1;,6)", "0", 0)
            .shows("n@(1)~3 5 4", "1", 0)
            .shows("n@(2)~2 2#1 2 3 4", "1", 0)
            .shows("n@(4)~!0", "1", 0)
            .shows("?-(1;!0;!0)", "(_1;!0)", 7)
            .shows("?-(1;2 3;2 3;(2 3;1);(2 3;1))", "(_1;_2 _3;(_2 _3;_1))", 7)
            .shows("(-(1;();!0;0# 'a'))~(_1;();!0;!0)", "1", 0)
            .shows("(-(1;();!0))^(();!0)", "(_1)", 7);
    }

    private static void kindsAndLevels() {
        new Check()
            .shows("@'-(1 2;3000000000 4;5 6;7;8 9)", "4 5 4 0 4", 4)
            .shows("@'1*(2147483647 1;_2147483648 1;2147483648 1;_2147483649 1)", "4 4 5 5", 4)
            .shows("@'(1;1 2;2 2#1;'a')=1", "0 2 6 0", 4)
            .shows("-,,,,()", "((((()))))", 7)
            .shows("-,,,,,5", "((((,_5))))", 7)
            .shows("1+,,,,,5", "((((,6))))", 7)
            .shows("d: ,,,,1#(5;'a')", "(((((5)))))", 7)
            .shows("1-d", "(((((_4)))))", 7)
            .fails("d-!0", 8, 1)
            .fails("d-2 2#0", 8, 1)
            .shows("1+1", "2", 0)
            .shows("-d", "(((((_5)))))", 7);
    }

    private static void amended() {
        nested()
            .shows("r: n@(1)", "3 5 4", 4)
            .shows("r@(1): 9", "3 9 4", 4)
            .shows("t: n@(2)", "[1 2;3 4]", 6)
            .shows("t@(1): n@(3)@(0)", "[1 2;7 8]", 6)
            .shows("t@(0 1): |t", "[7 8;1 2]", 6)
            .shows("v: n@(3)", "(7 8;9)", 7)
            .shows("v@(1): r", "(7 8;3 9 4)", 7)
            .shows("c: b@(2)@(0)", "111b", 2)
            .shows("c@(1): 0", "101b", 2)
            .shows("n", "(1;3 5 4;[1 2;3 4];(7 8;9);!0;1 0 1;,6)", 7)
            .shows("b", "(0;10b;(111b;1))", 7);
    }

    private static void pointed() {
        ArrayCalculator calc = nested().calc;
        calc.point(1, 0);
        calc.point(2, 1);
        Check.same("count of a ROW", calc.count(0), 3);
        Check.same("its items", calc.item(0) * 100 + calc.item(1) * 10 + calc.item(2), 354);
        Check.same("behind its items", calc.item(3), 0);
        Check.same("ahead of its items", calc.item(-1), 0);
        calc.point(1, 0);
        calc.point(2, 2);
        Check.same("a TABLE's number", calc.item(3), 4);
        Check.same("behind its numbers", calc.item(4), 0);
        Check.same("a LINE", calc.point(2, 1), true);
        Check.same("its COUNT", calc.count(0), 2);
        Check.same("its item", calc.item(1), 4);
        Check.same("behind the LINE", calc.item(2), 0);
        Check.same("ahead of the LINE", calc.item(-1), 0);
        calc.point(1, 0);
        calc.point(2, 3);
        Check.same("no value behind a NEST's own", calc.point(2, 2), false);
        Check.same("a NEST's value", calc.point(2, 1), true);
        Check.same("which is ONE", calc.item(0), 9);
    }
}
