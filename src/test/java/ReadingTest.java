/** Promise 3, PART 2: tokens, the form of lines, and the places of their errors. */
public final class ReadingTest {
    public static void main(String[] args) {
        numbers();
        texts();
        names();
        adverbOrText();
        forms();
        choices();
        indices();
        open();
        order();
        functions();
        Check.end();
    }

    private static void numbers() {
        new Check()
            .shows("5", "5", 0)
            .shows("_5", "_5", 0)
            .shows("_0", "0", 0)
            .shows("  7  ", "7", 0)
            .shows("1 2 3", "1 2 3", 4)
            .shows("1_2", "1 _2", 4)
            .shows("3 _1_2", "3 _1 _2", 4)
            .shows("999999999999999999", "999999999999999999", 0)
            .shows("_999999999999999999", "_999999999999999999", 0)
            .shows("000000000000000001", "1", 0)
            .fails("1234567890123456789", 1, 18)
            .fails("1 _1234567890123456789", 1, 21)
            .shows("2147483647 _2147483648", "2147483647 _2147483648", 4)
            .shows("2147483648 1", "2147483648 1", 5)
            .shows("1 _2147483649", "1 _2147483649", 5)
            .fails("12a", 1, 2)
            .fails("1a2", 1, 1)
            .fails("1.5x", 1, 3)
            .fails("1 2 ;", 1, 4);
    }

    private static void texts() {
        String sixty = "a".repeat(59) + "b";
        new Check()
            .shows("'a'", "'a'", 1)
            .shows("' '", "' '", 1)
            .shows("'ab'", "'ab'", 3)
            .shows("'" + sixty + "'", "'" + sixty + "'", 3)
            .fails("'" + sixty + "c'", 1, 0)
            .fails("''", 1, 0)
            .fails("1,''", 1, 4)
            .fails("1, ''", 1, 3)
            .fails("'abc", 1, 0)
            .fails("1 2, 'abc", 1, 5)
            .fails("'a\tb'", 1, 0)
            .fails("'\t'", 1, 0)
            .fails("'a\u007fb'", 1, 0)
            .fails("'a\u00e9b'", 1, 0)
            .shows("'~!\"#'", "'~!\"#'", 3)
            .shows("'a' , 'b'", "'ab'", 3)
            .fails("'a' 'b'", 1, 4)
            .fails("'a'5", 1, 3)
            .fails("#'a;(b'", 1, 3)
            .shows("# 'a;(b'", "4");
    }

    private static void names() {
        new Check()
            .shows("abcdefgh: 5", "5")
            .shows("abcdefgh", "5")
            .fails("abcdefghi", 1, 8)
            .fails("abcdefghi: 5", 1, 8)
            .fails("a1", 1, 1)
            .fails("a_1", 1, 1)
            .fails("A", 1, 0)
            .fails("\"", 1, 0)
            .fails("1+`", 1, 2)
            .fails("1+\t2", 1, 2)
            .fails("nil", 2, 0)
            .fails("1 + nil", 2, 4)
            .fails("x", 2, 0)
            .fails("1+y", 2, 2)
            .fails("x:5", 1, 0)
            .fails("  y : 5", 1, 2)
            .fails("x:{x}", 1, 0)
            .fails("x@(0):5", 1, 0)
            .fails(" y@(0):5", 1, 1)
            .shows("xx: 6", "6")
            .shows("xx", "6");
    }

    private static void adverbOrText() {
        new Check()
            .shows("a: 1 2", "1 2")
            .shows("f: {x}", "1 2")
            .fails("-'a'", 1, 3)
            .fails("- 'a'", 5, 0)
            .shows("f'1 2", "1 2")
            .fails("f1", 1, 1)
            .fails("-f1 2", 1, 2)
            .shows("f 'ab'", "'ab'")
            .fails("f'ab'", 1, 4)
            .fails("a'ab'", 1, 1)
            .shows("#''(1 2;3)", "(1 1;,1)")
            .shows("# ''", "error 1 at 2")
            .shows("+/'(1 2;3 4)", "3 7")
            .shows("+/ 'ab'", "error 5 at 0")
            .fails("1/2", 1, 1)
            .fails("/1 2", 1, 0)
            .shows("+/ 1 2", "3")
            .shows("+ / 1 2", "3")
            .fails("+ ' 1 2", 1, 2);
    }

    private static void forms() {
        new Check()
            .fails("", 1, 0)
            .fails("   ", 1, 3)
            .fails("1+", 1, 2)
            .fails("1+  ", 1, 4)
            .fails("-".repeat(200), 1, 200)
            .shows("-".repeat(199) + "5", "_5")
            .shows("-".repeat(198) + "5 ", "5")
            .fails("(1;2", 1, 4)
            .fails("(1;)", 1, 3)
            .fails("(;1)", 1, 1)
            .fails(")", 1, 0)
            .fails("1)", 1, 1)
            .fails("(1]", 1, 2)
            .fails("1:2", 1, 1)
            .fails("a:b:5", 1, 3)
            .fails("a:", 1, 2)
            .fails("a:;", 1, 2)
            .fails("{x}", 1, 0)
            .fails("1+{x}", 1, 2)
            .fails("(f:{x})", 1, 2)
            .fails("f:{x", 1, 4)
            .fails("f:{}", 1, 3)
            .fails("f:{x;y}", 1, 4)
            .fails("f:{x}+1", 1, 5);
    }

    private static void choices() {
        new Check()
            .shows("[1;2;3]", "2")
            .shows("[0;2;3]", "3")
            .shows("[_1;2;3]", "2")
            .shows("[0;nil;3]", "3")
            .shows("[1;2;nil]", "2")
            .shows("1+[0;2;3]+4", "8")
            .fails("['a';2;3]", 5, 0)
            .fails("1+[,1;2;3]", 5, 2)
            .fails("[();2;3]", 5, 0)
            .fails("[nil;2;3]", 2, 1)
            .fails("[1;2]", 1, 4)
            .fails("[1;2;3;4]", 1, 6)
            .fails("[1;2;3)", 1, 6)
            .fails("[]", 1, 1)
            .shows("[1;[0;1;2];3]", "2");
    }

    private static void indices() {
        new Check()
            .shows("5 6 7@(1)", "6")
            .shows("5 6 7 @ (2 0)", "7 5")
            .shows("5 6 7@(1)+10", "16")
            .shows("5 6 7@1+1", "7")
            .shows("(1;2 3)@(1)@(0)", "2")
            .fails("5 6@(2)", 7, 3)
            .fails("1+5 6@(nil)", 2, 7)
            .fails("5 6@(1", 1, 6)
            .fails("5 6@()", 1, 5)
            .fails("5 6@(())", 3, 3)
            .fails("5 6@(1;'a')", 1, 6)
            .fails("5 6@((1;'a'))", 3, 3)
            .shows("5 6@((1;0))", "6 5")
            .shows("5 6@'1 0", "error 3 at 3")
            .shows("@(1)", "0")
            .shows("-@('a')", "_1")
            .shows("a: 5 6", "5 6")
            .shows("a@(1)", "6")
            .fails("a@(1):", 1, 6)
            .fails("a@(1)):5", 1, 5)
            .fails("a@([1)):5", 1, 5)
            .fails("a@(1) 5", 1, 6);
    }

    private static void open() {
        Check check = new Check();
        check.shows("(".repeat(12) + "1" + ")".repeat(12), "1");
        check.fails("(".repeat(13) + "1" + ")".repeat(13), 1, 12);
        check.fails("[1;".repeat(12) + "(2)" + ";3]".repeat(12), 1, 36);
        check.shows("[1;".repeat(12) + "2" + ";3]".repeat(12), "2");
        check.shows("f:{" + "(".repeat(11) + "x" + ")".repeat(11) + "}", "2");
        check.fails("f:{" + "(".repeat(12) + "x" + ")".repeat(12) + "}", 1, 14);
        check.fails("[".repeat(13) + "1", 1, 12);
        check.shows("a: 1 2", "1 2");
        check.shows("c: 1 0", "1 0");
        check.shows("c@(".repeat(12) + "1" + ")".repeat(12), "1");
        check.fails("c@(".repeat(13) + "1" + ")".repeat(13), 1, 38);
        check.shows("(".repeat(11) + "a@(1)" + ")".repeat(11), "2");
        check.fails("(".repeat(12) + "a@(1)" + ")".repeat(12), 1, 14);
        check.shows("a@(" + "(".repeat(11) + "1" + ")".repeat(11) + "):5", "1 5");
        check.fails("a@(" + "(".repeat(12) + "1" + ")".repeat(12) + "):5", 1, 14);
        check.shows("(1)+(2)+(3)+(4)+(5)+(6)+(7)+(8)+(9)+(10)+(11)+(12)+(13)", "91");
    }

    private static void order() {
        new Check()
            .shows("2*3+4", "14")
            .shows("10-5-2", "7")
            .shows("-1-2", "1")
            .shows("- - 5", "5")
            .fails("nil+lin", 2, 4)
            .fails("(nil;lin)", 2, 5)
            .fails("(1;nil;'a'+1)", 5, 10)
            .fails("nil + 1 + 'a'", 5, 8)
            .fails("(1 2+1 2 3)+ 'a'+1", 5, 16)
            .fails("nil@(lin)", 2, 5);
    }

    private static void functions() {
        Check check = new Check();
        check.shows("7", "7");
        check.takes("f: {x+1}", 0);
        Check.same("RESULT stays", check.printed(), "7");
        check.shows("f 4", "5");
        check.fails("f", 1, 1);
        check.fails("1+f", 1, 3);
        check.fails("(f)", 1, 2);
        check.shows("4 f 5", "5");
        check.fails("f@(0):5", 1, 0);
        check.shows("f@(5)", "1");
        check.shows("g: {f x}", "1");
        check.shows("f: 3", "3");
        check.fails("1 + g 4", 2, 4);
        check.shows("f", "3");
        check.shows("f: {f}", "error 1 at 5");
        check.shows("h: {[x;x*h x-1;1]}", "3");
        check.shows("h 5", "120");
        check.fails("k", 2, 0);
        check.shows("k: {q}", "120");
        check.fails("k 1", 2, 0);
        check.shows("q: 9", "9");
        check.shows("k 1", "9");
        check.shows("q: {x}", "9");
        check.fails("k 1", 2, 0);
        check.fails("k: {y", 1, 5);
        check.shows("q: 4", "4");
        check.shows("k 1", "4");
    }
}
