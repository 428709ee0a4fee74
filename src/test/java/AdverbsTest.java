/** Promise 3, the end of PART 4: ADVERBS and FUNCTIONS. */
public final class AdverbsTest {
    public static void main(String[] args) {
        folded();
        run();
        each();
        several();
        gatheredTooMany();
        functions();
        depth();
        places();
        Check.end();
    }

    private static void folded() {
        new Check()
            .shows("+/1 2 3 4", "10", 0)
            .shows("-/10 3 2", "5", 0)
            .shows("+/7", "7", 0)
            .shows("+/ 'a'", "'a'", 1)
            .shows("+/,7", "7", 0)
            .shows("+/2 3#!6", "3 5 7", 4)
            .shows(",/(1;2 3;4)", "1 2 3 4", 4)
            .shows("10+/1 2 3", "16", 0)
            .shows("10-/!0", "10", 0)
            .shows("'a'+/()", "'a'", 1)
            .shows("10-/3", "7", 0)
            .shows("1 2+/10 20", "31 32", 4)
            .fails("+/!0", 4, 0)
            .fails("+/()", 4, 0)
            .fails("+/(1;'a';2)", 5, 0)
            .fails("1+ +/1 'a'", 1, 7)
            .fails("1+(+/ 'ab')", 5, 3);
    }

    private static void run() {
        new Check()
            .shows("+\\1 2 3 4", "1 3 6 10", 4)
            .shows("+\\7", ",7", 4)
            .shows("+\\ 'a'", ",'a'", 3)
            .shows("10+\\1 2 3", "10 11 13 16", 4)
            .shows("10+\\!0", ",10", 4)
            .shows("1 2+\\!0", "(1 2)", 7)
            .shows(",\\1 2 3", "(1;1 2;1 2 3)", 7)
            .shows("+\\2 2#1 2 3 4", "(1 2;4 6)", 7)
            .fails("+\\!0", 4, 0)
            .fails("+\\()", 4, 0)
            .shows("*\\5#1000", "1000 1000000 1000000000 1000000000000 1000000000000000", 5);
    }

    private static void each() {
        new Check()
            .shows("-'1 2 3", "_1 _2 _3", 4)
            .shows("-'5", ",_5", 4)
            .shows("#'(1 2;3;'abc')", "2 1 3", 4)
            .shows("!'1 2", "(,0;0 1)", 7)
            .shows("-'!0", "()", 7)
            .shows("-'()", "()", 7)
            .shows("*'('ab';'cd')", "'ac'", 3)
            .shows("*'('ab';1 2)", "('a';1)", 7)
            .shows("+'2 2#1 2 3 4", "(1 2;3 4)", 7)
            .shows("1 2+'10 20", "11 22", 4)
            .shows("1+'10 20", "11 21", 4)
            .shows("1 2+'10", "11 12", 4)
            .shows("1+'2", ",3", 4)
            .shows("1 2,'3 4", "(1 3;2 4)", 7)
            .shows("1 2=' 'ab'", "0 0", 4)
            .shows("(1 2;3),'4 5", "(1 2 4;3 5)", 7)
            .shows("(2 2#1 2 3 4)+'10 20", "(11 12;23 24)", 7)
            .shows("1 2#'(5 6;7 8)", "(,5;7 8)", 7)
            .shows("5+'!0", "()", 7)
            .shows("()+'5", "()", 7)
            .fails("1 2+'1 2 3", 4, 3)
            .fails("(,1)+'1 2 3", 4, 4)
            .fails("(!0)+'1 2 3", 4, 4)
            .fails("1 2+' 'ab'", 5, 3);
    }

    private static void several() {
        new Check()
            .shows("+/'(1 2;3 4 5)", "3 12", 4)
            .shows("+/\\(1 2;3 4)", "(1 2;8 9)", 7)
            .shows("+\\'(1 2;3 4 5)", "(1 3;3 7 12)", 7)
            .shows("-''(1 2;3)", "(_1 _2;,_3)", 7)
            .shows("1+''(1 2;3)", "(2 3;,4)", 7)
            .shows("10+/'1 2", "11 12", 4)
            .shows("10 20+/'(1 2;3)", "13 23", 4)
            .shows("10 20+\\'(1 2;3)", "(10 11 13;20 23)", 7)
            .shows("+//(1 2;3)", "4 5", 4)
            .shows("+/+/2 2#1 2 3 4", "10", 0)
            .shows("-''''1", "(((,_1)))", 7)
            .fails("-'''''1", 1, 5)
            .fails("-////\\1", 1, 5)
            .shows("-////1", "1", 0);
    }

    private static void gatheredTooMany() {
        Check check = new Check();
        check.shows("#-'!120", "120");
        check.shows("#0+\\!119", "120");
        check.fails("0+\\!120", 8, 1);
        check.shows("#,'!24", "24");
        check.fails("1+ ,'!25", 8, 3);
        check.fails(",'!25", 8, 0);
        check.shows(",''''1", "((((,1))))");
        check.fails("1+,,''''1", 8, 2);
        check.line("two: {,,x}");
        check.fails("1+two''''1", 8, 2);
        check.fails("-''''','5", 1, 5);
        check.fails("!'9#119", 8, 0);
        check.shows("#!'8#119", "8");
    }

    private static void functions() {
        new Check()
            .shows("f: {x*2}", "0")
            .shows("f 5", "10")
            .shows("f 1 2", "2 4")
            .shows("7 f 5", "14")
            .shows("f'1 2 3", "2 4 6")
            .shows("g: {x+10*y}", "2 4 6")
            .shows("1 g 2", "21")
            .shows("g/1 2 3", "51")
            .shows("g\\1 2 3", "1 21 51")
            .shows("1 g'2 3", "21 31")
            .fails("g 5", 2, 0)
            .fails("1 + g'5 6", 2, 4)
            .shows("h: {g/x}", "21 31")
            .shows("h 1 2 3", "51")
            .shows("k: {z: x}", "error 1 at 5")
            .shows("k: {(x;y;f x)}", "51")
            .shows("'a' k 3", "error 5 at 4")
            .shows("3 k 'a'", "(3;'a';6)")
            .shows("z: 4", "4")
            .shows("m: {x+z}", "4")
            .shows("m 1", "5")
            .shows("z: 5", "5")
            .shows("m 1", "6")
            .shows("f f 3", "12")
            .shows("(f 3)+f 4", "14")
            .shows("2 g f 3", "62")
            .shows("n: {x@(0)}", "62")
            .shows("n 8 9", "8")
            .shows("p: {[x>3;'y';'n']}", "8")
            .shows("p' 2 5", "'ny'");
    }

    private static void depth() {
        Check check = new Check();
        check.line("f: {[x;1+f x-1;0]}");
        check.shows("f 9", "9");
        check.fails("f 10", 9, 0);
        check.fails("1+f' 3 10", 9, 2);
        check.line("g: {f x}");
        check.shows("g 8", "8");
        check.fails("- g 9", 9, 2);
        check.line("h: {f'x}");
        check.shows("h 8 8", "8 8");
        check.fails("h 9 9", 9, 0);
        // Calls that end make room for others.
        check.shows("+/f'20#9", "180");
        // Asked behind 2.
        check.line("f: {[x;f x-1;k x]}");
        check.line("k: {x}");
        check.line("f: {[x;f x-1;k x]}");
        check.fails("f 9", 9, 0);
        check.line("k: 1");
        check.fails("f 9", 2, 0);
    }

    private static void places() {
        Check check = new Check();
        check.line("f: {x+'a'}");
        check.line("f: {x+ 'a'}");
        check.line("g: {1 + f x}");
        check.fails("f 1", 5, 0);
        check.fails("2*g 1", 5, 2);
        check.fails("2 * g' 1 2", 5, 4);
        check.line("h: {(x;nil)}");
        check.fails("  h 1", 2, 2);
        check.line("k: {[x;1;2]}");
        check.fails("1+k ()", 5, 2);
        check.line("m: {(,'!25;x)}");
        check.fails("1+m 1", 8, 2);
        check.fails("(f 1)+nil", 2, 6);
    }
}
