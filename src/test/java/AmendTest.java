/** Promise 3, PART 2: names of values, and lines of the second form. */
public final class AmendTest {
    public static void main(String[] args) {
        naming();
        rows();
        placeToldTwice();
        nests();
        tables();
        errors();
        formOfLine();
        fortyNames();
        Check.end();
    }

    private static void naming() {
        Check check = new Check();
        check.shows("a: 5", "5");
        check.shows("a+1", "6");
        check.shows("a: a+1", "6");
        check.shows("a", "6");
        check.fails("a: 1+nil", 2, 5);
        check.shows("a", "6");
        check.fails("b: nil", 2, 3);
        check.fails("b", 2, 0);
        check.shows(" c : 1 2 ", "1 2");
        check.shows("c", "1 2");
        check.shows("f: {x+1}", "1 2");
        check.shows("f: f 5", "6");
        check.shows("f+1", "7");
        check.shows("f: {x-1}", "7");
        check.shows("f 5", "4");
    }

    private static void rows() {
        new Check()
            .shows("a: 5 6 7", "5 6 7")
            .shows("a@(1): 9", "5 9 7", 4)
            .shows("a", "5 9 7", 4)
            .shows("a@(0 2): 1", "1 9 1", 4)
            .shows("a@(0 2): 3 4", "3 9 4", 4)
            .shows("a@(0 0): 5 6", "6 9 4", 4)
            .shows("a@(!0): 1", "6 9 4", 4)
            .shows("a@(!0): !0", "6 9 4", 4)
            .shows("a@(1): 3000000000", "6 3000000000 4", 5)
            .shows("a@(1): 1", "6 1 4", 4)
            .shows("a@(,1): ,2", "6 2 4", 4)
            .shows("a @ (1) : 3", "6 3 4", 4)
            .shows("b: 1 2 3=1 2 4", "110b", 2)
            .shows("b@(2): 1", "111b", 2)
            .shows("b@(0 1=1 1): 0", "001b", 2)
            .shows("b@(0): 2", "2 0 1", 4)
            .shows("b: 1 2=1 2", "11b", 2)
            .shows("b@(!0): 7", "11b", 2)
            .shows("s: 'hello'", "'hello'")
            .shows("s@(0): 'j'", "'jello'", 3)
            .shows("s@(1 4): 'ay'", "'jally'", 3)
            .shows("s@(0): 1", "(1;'a';'l';'l';'y')", 7)
            .shows("a@(0): 'q'", "('q';3;4)", 7)
            .shows("a: 1 2 3", "1 2 3")
            .shows("a@(1): 8 9", "(1;8 9;3)", 7)
            .shows("a: 1 2 3", "1 2 3")
            .shows("a@(1 2): ('b';'c')", "(1;'b';'c')", 7)
            .shows("l: 1#5 3000000000", ",5", 5)
            .shows("l@(!0): 1", ",5", 4)
            .shows("e: 0# 'a'", "''", 3)
            .shows("e@(!0): 1", "''", 3);
    }

    private static void placeToldTwice() {
        new Check()
            .shows("a: 1 2 3", "1 2 3")
            .shows("a@(0 0): ('x';5)", "(5;2;3)", 7)
            .shows("a: 1 2 3", "1 2 3")
            .shows("a@(0 0): (4 5;5)", "(5;2;3)", 7)
            .shows("a: 1 2 3", "1 2 3")
            .shows("a@(0 0): (5;'x')", "('x';2;3)", 7)
            .shows("a: 1 2 3", "1 2 3")
            .shows("a@(0 0): 3000000000 5", "5 2 3", 4)
            .shows("b: 1 2=1 2", "11b", 2)
            .shows("b@(0 0): 1 0", "01b", 2)
            .shows("b@(0 0): 7 0", "0 1", 4)
            .shows("b: 1 2=1 2", "11b", 2)
            .shows("b@(0 0): ('x';0)", "(0;1)", 7)
            .shows("s: 'abc'", "'abc'", 3)
            .shows("s@(1 1): 'xy'", "'ayc'", 3)
            .shows("s@(1 1): (5;'z')", "('a';'z';'c')", 7)
            .shows("z: 25#1", "1 1 1 1 1 1 1 1 1 1 1 1 1 1 1 1 1 1 1 1 1 1 1 1 1", 4)
            .fails("z@(0 0): ('x';5)", 8, 1);
    }

    private static void nests() {
        new Check()
            .shows("n: (1;'a';2 3)", "(1;'a';2 3)")
            .shows("n@(1): 5", "(1;5;2 3)", 7)
            .shows("n@(2): 6", "(1;5;6)", 7)
            .shows("n@(0): (7;'x')", "((7;'x');5;6)", 7)
            .shows("n@(0 1): (8 9;'y')", "(8 9;'y';6)", 7)
            .shows("n@(0 1 2): 0", "(0;0;0)", 7)
            .shows("n@(0 1): 4 5", "(4;5;0)", 7)
            .shows("n@(2): ()", "(4;5;())", 7)
            .shows("n@(0 1): 2 2#1 2 3 4", "(1 2;3 4;())", 7);
    }

    private static void tables() {
        new Check()
            .shows("t: 2 2#1 2 3 4", "[1 2;3 4]")
            .shows("t@(0): 5 6", "[5 6;3 4]", 6)
            .shows("t@(0 1): (7 8;9 9)", "[7 8;9 9]", 6)
            .shows("t@(1 0): 2 2#1 2 3 4", "[3 4;1 2]", 6)
            .shows("t@(0): 1 0=1 1", "[1 0;1 2]", 6)
            .shows("t@(0 0): (5 5;6 6)", "[6 6;1 2]", 6)
            .shows("t@(!0): 5", "[6 6;1 2]", 6)
            .fails("t@(0): 5", 3, 1)
            .fails("t@(0): 'a'", 3, 1)
            .fails("t@(0 1): 5 6", 3, 1)
            .fails("t@(0): 2 2#1", 3, 1)
            .fails("t@(0): (1;'a')", 3, 1)
            .fails("t@(0): 'ab'", 5, 1)
            .fails("t@(0): 1 2 3", 4, 1)
            .fails("t@(0): 'abc'", 5, 1)
            .fails("t@(0): 1 3000000000", 6, 1)
            .fails("t@(0): 3000000000 1", 6, 1)
            .fails("t@(0 1): (1 2 3;5)", 4, 1)
            .fails("t@(0 1): (1 3000000000;5)", 6, 1)
            .fails("t@(0 0): (1 2 3;5 6)", 4, 1)
            .fails("t@(2): 5", 7, 1)
            .shows("t", "[6 6;1 2]", 6);
    }

    private static void errors() {
        new Check()
            .shows("a: 5 6 7", "5 6 7")
            .shows("o: 5", "5")
            .fails("o@(0): 1", 3, 1)
            .fails("o@('a'): 1", 3, 1)
            .fails("a@(()): 1", 3, 1)
            .fails("a@(2 2#0): 1", 3, 1)
            .fails("a@('a'): 1", 5, 1)
            .fails("a@('ab'): 1 2 3", 5, 1)
            .fails("a@(3): 1", 7, 1)
            .fails("a@(_1): 1", 7, 1)
            .fails("a@(0 3): 1", 7, 1)
            .fails("a @(0 1): 1 2 3", 4, 2)
            .fails("a@(8 9): 1 2 3", 4, 1)
            .fails("a@(,0): !0", 4, 1)
            .fails("nil@(0): 1", 2, 0)
            .fails(" nil@(lin): 1", 2, 6)
            .fails("nil@(lin): 1+nix", 2, 13)
            .shows("a", "5 6 7")
            .shows("z: !25", "0 1 2 3 4 5 6 7 8 9 10 11 12 13 14 15 16 17 18 19 20 21 22 23 24")
            .fails("z@(0): 'a'", 8, 1)
            .shows("#z@(0):", "error 1 at 6")
            .shows("z: 24#0", "0 0 0 0 0 0 0 0 0 0 0 0 0 0 0 0 0 0 0 0 0 0 0 0")
            .fails("z@(!24): !120", 4, 1)
            .fails("z@(0): ,,,,,1", 8, 1)
            .takes("z@(0): 8#,!120", 125 + 246 + 1095 + 1991)
            .fails("z@(1): !120", 8, 1);
    }

    private static void formOfLine() {
        new Check()
            .shows("a: 5 6 7", "5 6 7")
            .shows("a@(a@(0)-5): 1", "1 6 7")
            .shows("a@([1;0;1]): 2", "2 6 7")
            .shows("a@((0);): 2", "error 1 at 6")
            .fails("a@({0}): 2", 1, 3)
            .fails("a@(0)+1: 2", 1, 7)
            .fails("a@(0): {x}", 1, 7)
            .fails("a@(0):b: 1", 1, 7)
            .fails("a@0: 2", 1, 3)
            .fails("x@0: 2", 1, 3)
            .fails("a-(0): 2", 1, 5)
            .fails("x-(0): 2", 1, 5)
            .fails("5@(0): 2", 1, 5)
            .fails("x@([): 2", 1, 4)
            .fails("x@([)]): 2", 1, 4)
            .fails("x@([)): 2", 1, 0);
    }

    private static void fortyNames() {
        Check check = new Check();
        for (int i = 0; i < 40; i++) {
            String name = "n" + (char) ('a' + i % 26) + (char) ('a' + i / 26);
            check.line(i % 2 == 0 ? name + ":" + i : name + ":{x+" + i + "}");
        }
        Check.same("values", check.calc.names(0), 20);
        Check.same("functions", check.calc.names(1), 20);
        check.fails("new: 1", 8, 0);
        check.fails("  new: 1+nil", 8, 2);
        check.fails("new: {x}", 8, 0);
        check.fails("new: 1+", 1, 7);
        check.fails("new@(0): 1", 2, 0);
        check.shows("naa: 41", "41");
        check.shows("nba: 42", "42");
        check.shows("naa: {x}", "42");
        Check.same("values then", check.calc.names(0), 20);
        Check.same("functions then", check.calc.names(1), 20);
        check.shows("naa 7", "7");
        check.takesThenFails("new: !120", 0, 8);
    }
}
