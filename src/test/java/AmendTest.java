/** PART 2: what lines of the second form do, and AMENDED. */
public final class AmendTest {
    public static void main(String[] args) {
        all();
        Check.end();
    }

    static void all() {
        orderOfTheLine();
        sorts();
        placesThere();
        onePlace();
        onesAndItems();
        unlikeCounts();
        placeToldTwice();
        tables();
        tablesPlaceByPlace();
        rowsOfNumbers();
        bits();
        signs();
        nests();
        tooMany();
    }

    private static void orderOfTheLine() {
        Check check = Doc.says("Of the second form: the last expr, then the places, then the NAME's value; what AMENDED makes "
                + "of them is the NAME's value.")
            .fails("nil@(lin): 1+nix", 2, 13).fails("nil@(lin): 1", 2, 5).fails("nil@(0): 1", 2, 0)
            .does("a: 5 6 7").shows("a@(1): 9", "5 9 7").shows("a", "5 9 7").shows("a@(a@(0)-3): a@(1)", "5 9 9")
            .fails("a@(3): nil", 2, 7).fails("a@(1 2@(2)): 1", 7, 6).fails("a@(3): 1", 7, 1).shows("a", "5 9 9");
        Check.same("no other name", check.calc.names(0), 1);
    }

    private static void sorts() {
        Doc.says("AMENDED (l, places w, v): l ONE: 3; w a TABLE or NEST: 3, SIGNS: 5;")
            .does("a: 5 6 7", "o: 5", "p: 'a'")
            .fails("o@(0): 1", 3, 1).fails("p@(0): 'b'", 3, 1).fails("o@('a'): 1", 3, 1).fails("o@('ab'): 1", 3, 1)
            .fails("o@(!0): 1", 3, 1)
            .fails("a@(()): 1", 3, 1).fails("a@(2 2#0): 1", 3, 1).fails("a@(1#(1;'a')): 1", 3, 1)
            .fails("a@('a'): 1", 5, 1).fails("a@('ab'): 1", 5, 1).fails("a@(0# 'a'): 1", 5, 1).fails("a@('ab'): 1 2 3", 5, 1)
            .fails("a@(()): 1 2 3", 3, 1);
    }

    private static void placesThere() {
        Doc.says("SIGNS: 5; a place that isn't there: 7. w ONE number: v is put there;")
            .does("a: 5 6 7", "t: 2 2#1", "n: (1;'a')", "e: !0")
            .does("a@(0): 1", "a@(2): 1").fails("a@(3): 1", 7, 1).fails("a@(_1): 1", 7, 1).fails("a@(0 3): 1", 7, 1)
            .fails("a@(3 0): 1", 7, 1).fails("a@(4294967296): 1", 7, 1).fails("a@(_4294967296 0): 1", 7, 1)
            .does("t@(1): 5 5").fails("t@(2): 5 5", 7, 1).does("n@(1): 2").fails("n@(2): 2", 7, 1).fails("e@(0): 2", 7, 1);
    }

    private static void onePlace() {
        Doc.says("w ONE number: v is put there;")
            .does("a: 1 2 3").shows("a@(1): 9", "1 9 3", 4).shows("a@(1): 8 9", "(1;8 9;3)", 7).shows("a@(1): ()", "(1;();3)", 7)
            .shows("a@(0): ,7", "(,7;();3)", 7).shows("a@(2): 2 2#1", "(,7;();[1 1;1 1])", 7)
            .shows("a@(2): 'xy'", "(,7;();'xy')", 7);
    }

    private static void onesAndItems() {
        Doc.says("else v, if it is ONE, at all of them, other v's items one by one")
            .does("a: 5 6 7").shows("a@(0 2): 1", "1 6 1", 4).shows("a@(,1): 4", "1 4 1", 4).shows("a@(!0): 1", "1 4 1", 4)
            .shows("a@(0 2): 3 9", "3 4 9", 4).shows("a@(,1): ,2", "3 2 9", 4).shows("a@(!0): !0", "3 2 9", 4)
            .shows("a@(1 2=1 1): 7 8", "8 7 9", 4).shows("a@(1 2): ('b';'c')", "(8;'b';'c')", 7)
            .shows("a@(0 1): 2 2#1 2 3 4", "(1 2;3 4;'c')", 7).shows("a@(0 1 2): 0", "(0;0;0)", 7)
            .shows("a@(,0): ,1 2", "(1 2;0;0)", 7).shows("a@(!0): ()", "(1 2;0;0)", 7);
    }

    private static void unlikeCounts() {
        Doc.says("(unlike COUNTs: 4, asked ahead of the places;")
            .does("a: 5 6 7", "t: 2 2#1")
            .fails("a @(0 1): 1 2 3", 4, 2).fails("a@(0 1 2): 1 2", 4, 1).fails("a@(,0): !0", 4, 1).fails("a@(!0): ,1", 4, 1)
            .fails("a@(8 9): 1 2 3", 4, 1).fails("a@(_1 9): (1;2;'a')", 4, 1).fails("t@(0 1): 1 2#1", 4, 1)
            .fails("t@(9 9): 3 2#1", 4, 1).fails("a@(8 9): 1 2", 7, 1).shows("a", "5 6 7");
    }

    private static void placeToldTwice() {
        Doc.says("a later one of the same place counts).")
            .does("a: 5 6 7").shows("a@(0 0): 1 2", "2 6 7", 4).shows("a@(1 0 1): 3 4 5", "4 5 7", 4)
            .does("t: 2 2#1").shows("t@(0 0): (5 5;6 6)", "[6 6;1 1]", 6)
            .does("n: (1;'a')").shows("n@(1 1 0 1): (2;3;4;5)", "(4;5)", 7);
        Check.of("all that is put tells the KIND, also what another value at its place comes behind");
        new Check()
            .does("a: 1 2 3").shows("a@(0 0): ('x';5)", "(5;2;3)", 7)
            .does("a: 1 2 3").shows("a@(0 0): (4 5;5)", "(5;2;3)", 7)
            .does("a: 1 2 3").shows("a@(0 0): (5;'x')", "('x';2;3)", 7)
            .does("a: 1 2 3").shows("a@(0 0): 3000000000 5", "5 2 3", 4)
            .does("b: 1 2=1 2").shows("b@(0 0): 1 0", "01b", 2).shows("b@(0 0): 7 0", "0 1", 4)
            .does("b: 1 2=1 2").shows("b@(0 0): ('x';0)", "(0;1)", 7)
            .does("s: 'abc'").shows("s@(1 1): 'xy'", "'ayc'", 3).shows("s@(1 1): (5;'z')", "('a';'z';'c')", 7)
            .does("z: 25#1").fails("z@(0 0): ('x';5)", 8, 1);
    }

    private static void tables() {
        Doc.says("a TABLE takes rows of numbers alone (3, SIGNS 5), as long as its LINES (4), fitting 32 bits (6).")
            .does("t: 2 2#1 2 3 4")
            .shows("t@(0): 5 6", "[5 6;3 4]", 6).shows("t@(0 1): (7 8;9 9)", "[7 8;9 9]", 6)
            .shows("t@(1 0): 2 2#1 2 3 4", "[3 4;1 2]", 6).shows("t@(0): 1 0=1 1", "[1 0;1 2]", 6)
            .shows("t@(0): 2#5 6 3000000000", "[5 6;1 2]", 6).shows("t@(!0): 5", "[5 6;1 2]", 6)
            .fails("t@(0): 5", 3, 1).fails("t@(0): 'a'", 3, 1).fails("t@(0 1): 5 6", 3, 1).fails("t@(0 1): 5", 3, 1)
            .fails("t@(0): 2 2#1", 3, 1).fails("t@(0): (1;'a')", 3, 1).fails("t@(0 1): 'ab'", 3, 1)
            .fails("t@(0): 'ab'", 5, 1).fails("t@(0): 'abc'", 5, 1).fails("t@(0): 0# 'a'", 5, 1)
            .fails("t@(0): 1 2 3", 4, 1).fails("t@(0): ,1", 4, 1).fails("t@(0): !0", 4, 1).fails("t@(0 1): 2 3#1", 4, 1)
            .fails("t@(0): 1 3000000000", 6, 1).fails("t@(0): 3000000000 1", 6, 1).fails("t@(0): 1 2 3000000000", 4, 1)
            .shows("t@(1): 2147483647 _2147483648", "[5 6;2147483647 _2147483648]", 6)
            .fails("t@(1): 1 2147483648", 6, 1).fails("t@(1): 1 _2147483649", 6, 1);
    }

    private static void tablesPlaceByPlace() {
        Doc.says("When all places are there, place by place:")
            .does("t: 2 2#1 2 3 4")
            .fails("t@(0 1): (1 2 3;5)", 4, 1).fails("t@(0 1): (5;1 2 3)", 3, 1).fails("t@(0 1): (1 3000000000;5)", 6, 1)
            .fails("t@(1 0): ('ab';5)", 5, 1).fails("t@(1 0): (5;'ab')", 3, 1).fails("t@(0 0): (1 2 3;5 6)", 4, 1)
            .fails("t@(2): 5", 7, 1).fails("t@(0 2): (5;1 2)", 7, 1).fails("t@(0 1): (5 6;1 2 3)", 4, 1)
            .shows("t", "[1 2;3 4]", 6);
    }

    private static void rowsOfNumbers() {
        Doc.says("A ROW of numbers into which NUMBERS alone are put is their NUMBER ROW")
            .does("a: 5 6 7").shows("a@(1): 3000000000", "5 3000000000 7", 5).shows("a@(1): 1", "5 1 7", 4)
            .shows("a@(0 2): 1 2147483648", "1 1 2147483648", 5).shows("a@(2): 2147483647", "1 1 2147483647", 4)
            .does("l: 1#5 3000000000").shows("l@(!0): 1", ",5", 4).shows("l@(!0): !0", ",5", 4)
            .does("e: !0").shows("e@(!0): 1", "!0", 4).does("e: 0#3000000000").shows("e@(!0): 1", "!0", 4)
            .does("z: !120").has("z@(0): 5", 4, 120);
    }

    private static void bits() {
        Doc.says("(BITS, if it was and 0 and 1 alone are put);")
            .does("b: 1 2 3=1 2 4").shows("b@(2): 1", "111b", 2).shows("b@(0 1=1 1): 0", "001b", 2)
            .shows("b@(1 2): 1 0", "010b", 2)
            .shows("b@(!0): 7", "010b", 2).shows("b@(0): 2", "2 1 0", 4).shows("b@(0): 1", "1 1 0", 4)
            .does("b: 1 2=1 2").shows("b@(1): _1", "1 _1", 4).does("b: 1 2=1 2").shows("b@(0 1): 1 3000000000", "1 3000000000", 5)
            .does("b: 1 2=1 2").shows("b@(0): 'a'", "('a';1)", 7).does("b: 1 2=1 2").shows("b@(0): ,1", "(,1;1)", 7);
    }

    private static void signs() {
        Doc.says("SIGNS with SIGNS alone are SIGNS;")
            .does("s: 'hello'").shows("s@(0): 'j'", "'jello'", 3).shows("s@(1 4): 'ay'", "'jally'", 3)
            .shows("s@(0 1): 'b'", "'bblly'", 3)
            .shows("s@(!0): 1", "'bblly'", 3).does("e: 0# 'a'").shows("e@(!0): 1", "''", 3).does("z: 120# 'a'")
            .has("z@(5): 'b'", 3, 120);
    }

    private static void nests() {
        Doc.says("all else is a NEST of the items")
            .does("s: 'abc'").shows("s@(0): 1", "(1;'b';'c')", 7).does("s: 'abc'").shows("s@(0): 'xy'", "('xy';'b';'c')", 7)
            .does("s: 'abc'").shows("s@(0 1): ('x';97)", "('x';97;'c')", 7)
            .does("a: 1 2 3").shows("a@(0): 'q'", "('q';2;3)", 7).does("a: 1 2 3").shows("a@(0 1): (5;'q')", "(5;'q';3)", 7)
            .does("a: 1 3000000000").shows("a@(0): 'q'", "('q';3000000000)", 7)
            .does("n: (1;'a';2 3)").shows("n@(1): 5", "(1;5;2 3)", 7).shows("n@(2): 6", "(1;5;6)", 7)
            .shows("n@(0): (7;'x')", "((7;'x');5;6)", 7).shows("n@(0 1): (8 9;'y')", "(8 9;'y';6)", 7)
            .shows("n@(0 1): 4 5", "(4;5;6)", 7).does("e: ()").shows("e@(!0): 1", "()", 7);
    }

    private static void tooMany() {
        Doc.says("all else is a NEST of the items (more than 24: 8).")
            .does("z: !24").has("z@(0): 'a'", 7, 24).does("z: !25").fails("z@(0): 'a'", 8, 1).has("z@(0): 5", 4, 25)
            .fails("z@(0): 1 2", 8, 1).does("s: 25# 'a'").fails("s@(0): 1", 8, 1).has("s@(0): 'b'", 3, 25)
            .does("s: 24# 'a'").has("s@(0): 1", 7, 24).fails("z@(25): 'a'", 7, 1);
    }
}
