/** The end of PART 4: ADVERBS and FUNCTIONS. */
public final class AdverbsTest {
    public static void main(String[] args) {
        all();
        Check.end();
    }

    static void all() {
        folded();
        foldedFrom();
        run();
        each();
        eachOfTwo();
        several();
        functions();
        depth();
        depthAmongErrors();
    }

    private static void folded() {
        Doc.says("ADVERBS: f/ w FOLDED, of w's items i0, i1, ..: i0, then what f makes of that and i1, and so on (none: 4);")
            .shows("+/1 2 3 4", "10", 0).shows("-/10 3 2", "5", 0).shows("+/7", "7", 0).shows("-/ 'a'", "'a'", 1)
            .shows("+/,7", "7", 0)
            .shows("-/1 2=1 3", "1", 0).shows("-/2 3#!6", "_3 _3 _3", 4).shows("+/1 3#!3", "0 1 2", 4)
            .shows(",/(1;2 3;4)", "1 2 3 4", 4)
            .shows(",/ 'abc'", "'abc'", 3).shows("+/,1 2", "1 2", 4)
            .fails("+/!0", 4, 0).fails("+/()", 4, 0).fails("+/0# 'a'", 4, 0).fails("+/(1;'a';2)", 5, 0)
            .fails("1+(+/ 'ab')", 5, 3);
    }

    private static void foldedFrom() {
        Doc.says("l f/ w: of l and i0 first, and so on (none: l).")
            .shows("10+/1 2 3", "16", 0).shows("10-/3", "7", 0).shows("10-/3 2", "5", 0).shows("1 2+/10 20", "31 32", 4)
            .shows("10-/!0", "10", 0).shows("'a'+/()", "'a'", 1).shows("(1;'a')+/!0", "(1;'a')", 7)
            .shows("1 2-/2 2#1 2 3 4", "_3 _4", 4)
            .shows("(),/1 2", "(1;2)", 7);
    }

    private static void run() {
        Doc.says("f\\ w, l f\\ w RUN: all that FOLDED comes to (i0, or l, first), in order, GATHERED.")
            .shows("+\\1 2 3 4", "1 3 6 10", 4).shows("-\\10 3 2", "10 7 5", 4).shows("+\\7", ",7", 4).shows("+\\ 'a'", ",'a'", 3)
            .shows("10+\\1 2 3", "10 11 13 16", 4).shows("10-\\3", "10 7", 4).shows("10+\\!0", ",10", 4)
            .shows("1 2+\\!0", "(1 2)", 7)
            .shows(",\\1 2 3", "(1;1 2;1 2 3)", 7).shows("+\\2 2#1 2 3 4", "(1 2;4 6)", 7).shows("+\\,1 2", "(1 2)", 7)
            .shows("*\\5#1000", "1000 1000000 1000000000 1000000000000 1000000000000000", 5)
            .fails("+\\!0", 4, 0).fails("+\\()", 4, 0).fails("1+\\ 'a'", 5, 1)
            .has("0+\\!119", 4, 120).fails("0+\\!120", 8, 1);
    }

    private static void each() {
        Doc.says("f' w EACH: f of each item, GATHERED;")
            .shows("-'1 2 3", "_1 _2 _3", 4).shows("-'5", ",_5", 4).shows("#'(1 2;3;'abc')", "2 1 3", 4)
            .shows("!'1 2", "(,0;0 1)", 7)
            .shows("-'!0", "()", 7).shows("-'()", "()", 7).shows("-'0# 'a'", "()", 7).shows("*'('ab';'cd')", "'ac'", 3)
            .shows("*'('ab';1 2)", "('a';1)", 7).shows("+'2 2#1 2 3 4", "(1 2;3 4)", 7).shows("~'0 1", "1 0", 4)
            .fails("-'(1;'a')", 5, 0).has("-'!120", 4, 120).has(",'!24", 7, 24).fails(",'!25", 8, 0);
    }

    private static void eachOfTwo() {
        Doc.says("l f' w: of each item of l with that of w at its place (ONE on one side: with each; unlike COUNTs: 4), GATHERED.")
            .shows("1 2+'10 20", "11 22", 4).shows("1+'10 20", "11 21", 4).shows("1 2-'10", "_9 _8", 4).shows("1+'2", ",3", 4)
            .shows("1 2,'3 4", "(1 3;2 4)", 7).shows("1 2=' 'ab'", "0 0", 4).shows("(1 2;3),'4 5", "(1 2 4;3 5)", 7)
            .shows("(2 2#1 2 3 4)+'10 20", "(11 12;23 24)", 7).shows("1 2#'(5 6;7 8)", "(,5;7 8)", 7)
            .shows("'a',' 'bc'", "('ab';'ac')", 7)
            .shows("(1 2;3 4)+'10", "(11 12;13 14)", 7).shows("10-'2 2#1 2 3 4", "(9 8;7 6)", 7)
            .shows("5+'!0", "()", 7).shows("()+'5", "()", 7).shows("(!0)+'()", "()", 7)
            .fails("1 2+'1 2 3", 4, 3).fails("(,1)+'1 2 3", 4, 4).fails("(!0)+'1 2 3", 4, 4).fails("1 2+'!0", 4, 3)
            .fails("(2 2#1)+'1 2 3", 4, 7)
            .fails("1 2+' 'ab'", 5, 3);
    }

    private static void several() {
        Doc.says("With several the last one takes what those ahead make as its f.")
            .shows("+/'(1 2;3 4 5)", "3 12", 4).shows("+'/(1 2;3 4)", "4 6", 4).shows("+/\\(1 2;3 4)", "(1 2;8 9)", 7)
            .shows("+\\'(1 2;3 4 5)", "(1 3;3 7 12)", 7).shows("-''(1 2;3)", "(_1 _2;,_3)", 7).shows("1+''(1 2;3)", "(2 3;,4)", 7)
            .shows("10+/'1 2", "11 12", 4).shows("10 20+/'(1 2;3)", "13 23", 4).shows("10 20+\\'(1 2;3)", "(10 11 13;20 23)", 7)
            .shows("+//(1 2;3)", "4 5", 4).shows("10+//(1 2;3)", "16", 0).shows("-''''1", "(((,_1)))", 7).shows("-////1", "1", 0)
            .fails("+/'(1 2;!0)", 4, 0).shows("10+/'(1 2;!0)", "13 10", 4).does("f: {x-y}").shows("f/'(9 1;5 2 1)", "8 2", 4)
            .shows("f\\'(9 1;5 2 1)", "(9 8;5 3 2)", 7);
    }

    private static void functions() {
        Doc.says("FUNCTIONS: f w: its expr with x w, without y; l f w: with x l, y w.")
            .does("f: {x*2}").shows("f 5", "10").shows("f 1 2", "2 4").shows("7 f 5", "14").shows("f'1 2 3", "2 4 6")
            .does("g: {x+10*y}").shows("1 g 2", "21").shows("g/1 2 3", "51").shows("g\\1 2 3", "1 21 51")
            .shows("1 g'2 3", "21 31")
            .fails("g 5", 2, 0).fails("1 + g'5 6", 2, 4).does("h: {g/x}").shows("h 1 2 3", "51")
            .does("k: {(x;y;f x)}").fails("'a' k 3", 5, 4).shows("3 k 'a'", "(3;'a';6)")
            .does("z: 4", "m: {x+z}").shows("m 1", "5").does("z: 5").shows("m 1", "6")
            .shows("f f 3", "12").shows("(f 3)+f 4", "14").shows("2 g f 3", "62").does("n: {x@(0)}").shows("n 8 9", "8")
            .does("p: {[x>3;'y';'n']}").shows("p' 2 5", "'ny'")
            // In a call x and y are those of that call, and behind it those ahead of it again.
            .does("q: {(x;f 50;y)}", "r: {(x;x q 7;y)}").shows("1 q 2", "1 100 2").shows("1 r 2", "(1;1 100 7;2)")
            .fails("x", 2, 0).fails("y", 2, 0);
    }

    private static void depth() {
        Check check = Doc.says("(An 11th call within calls is error 9, asked behind 2 and ahead of WORK.)")
            .does("f: {[x;1+f x-1;0]}").shows("f 9", "9").fails("f 10", 9, 0).fails("1+f' 3 10", 9, 2)
            .does("g: {f x}").shows("g 8", "8").fails("- g 9", 9, 2)
            .does("h: {f'x}").shows("h 8 8", "8 8").fails("h 9 9", 9, 0)
            // Calls that end make room for others.
            .shows("+/f'20#9", "180");
        // Each of 10 calls takes 5, and its act x-1 takes 6; the 11th call takes nothing.
        check.takesThenFails("f 10", 10 * 5 + 10 * 6, 9);
    }

    private static void depthAmongErrors() {
        Check check = new Check().does("k: {x}", "f: {[x;f x-1;k x]}").fails("f 9", 9, 0).does("k: 1").fails("f 9", 2, 0)
            .does("r: 100#1", "h: {-/x}", "m: {h r}", "k: {x}");
        // 10 calls take 50 and 9 acts 54, so that nothing is left for the 11th call.
        while (check.calc.told(3) > 62000) {
            check.line("m'r");
        }
        while (check.calc.told(3) > 1200) {
            check.line("h r");
        }
        while (check.calc.told(3) > 104 + 100) {
            check.line("-'1 2 3 4 5 6");
        }
        while (check.calc.told(3) > 104) {
            check.line((check.calc.told(3) - 104) % 4 == 0 ? "()" : "k 1");
        }
        Check.same("WORK left", check.calc.told(3), 104);
        check.fails("f 9", 9, 0);
        Check.same("WORK left then", check.calc.told(3), 0);
    }
}
