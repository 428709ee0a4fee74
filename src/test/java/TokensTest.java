/** The beginning of PART 2: the tokens of lines, and where their reading stops. */
public final class TokensTest {
    private static final String SIXTY = "a".repeat(59) + "b";

    public static void main(String[] args) {
        all();
        Check.end();
    }

    static void all() {
        mostBytes();
        blanks();
        numbers();
        texts();
        names();
        verbs();
        adverbsAndMarks();
        adverbOrText();
        behindNumbersAndNames();
        otherBytes();
        textsThatAreNone();
        wrongAhead();
    }

    private static void mostBytes() {
        Doc.says("PART 2. LINES have at most 200 bytes.")
            .shows("-".repeat(199) + "5", "_5")
            .has("1 ".repeat(100), 4, 100)
            .fails("-".repeat(200), 1, 200)
            .fails(" ".repeat(199) + ")", 1, 199);
    }

    private static void blanks() {
        Doc.says("Blanks (32) part tokens.")
            .shows("1 2", "1 2").shows("12", "12").shows("  1   2  ", "1 2").shows("ab: 1", "1").shows("a: 2", "2")
            .shows("ab", "1").fails("a b", 1, 2).does("b: {x}").shows("a b 5", "2").shows("a b+5", "2")
            .shows("1 + 2", "3").shows("1+2", "3").fails("1\t2", 1, 1).fails("1\n2", 1, 1);
        Check.of("a blank ahead of digits or a _");
        new Check().shows("_5", "_5").shows("_ 5", "!0").shows("1 _5", "1 _5").shows("1 _ 5", "!0").shows("1_5", "1 _5")
            .shows("1_ 5", "!0");
    }

    private static void numbers() {
        Doc.says("TOKENS: NUMBERS: one to eighteen digits, perhaps a _ right ahead (below 0);")
            .shows("5", "5", 0)
            .shows("_5", "_5", 0)
            .shows("0", "0", 0).shows("_0", "0", 0)
            .shows("3 _1_2", "3 _1 _2", 4)
            .shows("999999999999999999", "999999999999999999", 0)
            .shows("_999999999999999999", "_999999999999999999", 0)
            .shows("000000000000000001", "1", 0)
            .fails("1000000000000000000", 1, 18)
            .fails("0000000000000000001", 1, 18)
            .fails("_1000000000000000000", 1, 19)
            .fails("1 _1234567890123456789", 1, 21);
    }

    private static void texts() {
        Check check = Doc.says("TEXTS: 1 to 60 bytes (32 to 126, no ') between two ';")
            .shows("'a'", "'a'", 1).shows("'ab'", "'ab'", 3)
            .shows("'" + SIXTY + "'", "'" + SIXTY + "'", 3)
            .fails("'" + SIXTY + "c'", 1, 0)
            .fails("''", 1, 0)
            .fails("'a\u001fb'", 1, 0).shows("'a b'", "'a b'", 3)
            .shows("'a~b'", "'a~b'", 3).fails("'a\u007fb'", 1, 0)
            .shows("'~!\"#'", "'~!\"#'", 3)
            .shows("# 'a;(b'", "4");
        Check.same("the tape's bytes are the text's", check.line("'Az09'"), 0);
        Check.same("byte 0", check.calc.item(0), 'A');
        Check.same("byte 3", check.calc.item(3), '9');
        Check.of("the bytes of a TEXT are 32 to 126, no '");
        for (int b = 0; b < 256; b++) {
            boolean good = b >= 32 && b <= 126 && b != 39;
            Check one = new Check();
            Check.same("byte " + b, one.line("'" + (char) b + "'"), good ? 0 : -1);
            Check.same("byte " + b + " (item)", one.calc.item(0), good ? b : 0);
            Check.same("byte " + b + " (place)", one.calc.told(1), good ? -1 : 0);
        }
    }

    private static void names() {
        Doc.says("NAMES: 1 to 8 letters a to z (as long as they go, and so digits);")
            .shows("abcdefgh: 5", "5").shows("abcdefgh", "5")
            .shows("a: 1", "1").shows("z: 2", "2").shows("az: 3", "3").shows("(a;z;az)", "1 2 3")
            .shows("xx: 6", "6").shows("xx", "6")
            .fails("abcdefghi", 1, 8).fails("abcdefghi: 5", 1, 8)
            .fails("A", 1, 0).fails("`", 1, 0).fails("{", 1, 0).fails("nil", 2, 0);
    }

    private static void verbs() {
        Check check = Doc.says("the VERBS + - * % & | < > = ~ ! , # ? @ $ ^ . and _ (without a digit right behind it);");
        String verbs = "+-*%&|<>=~!,#?@$^._";
        for (int i = 0; i < verbs.length(); i++) {
            int answer = check.line(verbs.charAt(i) + " 5");
            Check.same(verbs.charAt(i) + " is a VERB", answer == 0 || answer == -3, true);
        }
        check.shows("_ 5 6", ",2").shows("_5 6", "_5 6").shows("_(5;6)", ",2").does("a: 5 6").shows("_a", ",2")
            .shows("1_a", ",6").fails("a_1", 1, 1).shows("_ _5", "!0").shows("__5", "!0").shows("0__1", ",_1");
    }

    private static void adverbsAndMarks() {
        Doc.says("the ADVERBS / \\ '; and ; ( ) [ ] { } :.")
            .shows("+/1 2", "3").shows("+\\1 2", "1 3").shows("-'1 2", "_1 _2").shows("+ / 1 2", "3")
            .shows("+ \\1 2", "1 3").fails("+ ' 1 2", 1, 2).fails("/1 2", 1, 0).fails("1/2", 1, 1).fails("\\1", 1, 0)
            .shows("(1;[0;2;3])", "1 3").shows("f:{x}", "1 3").shows("f 5", "5");
    }

    private static void adverbOrText() {
        Doc.says("A ' right behind a VERB, an ADVERB or a NAME of a FUNCTION is an ADVERB, any other begins a TEXT.")
            .does("a: 1 2", "f: {x}")
            .fails("-'a'", 1, 3).fails("- 'a'", 5, 0)
            .fails("+/'a'", 1, 4).shows("+/ 'a'", "'a'").shows("+/'(1 2;3 4)", "3 7").fails("+\\'a'", 1, 4)
            .shows("#''(1 2;3)", "(1 1;,1)").shows("#'' 'ab'", "(,1;,1)").shows("#'' 'a'", "(,1)")
            .shows("f'1 2", "1 2").fails("f'ab'", 1, 4).shows("f 'ab'", "'ab'").shows("f' 'ab'", "'ab'")
            .fails("a'ab'", 1, 1).fails("5'ab'", 1, 1).fails("('ab''cd')", 1, 5).shows("('ab')", "'ab'")
            .shows("(1;'ab')", "(1;'ab')").shows("['a'= 'a';'b';'c']", "'b'").shows("a@('a'= 'a')", "2")
            .does("g:{'b'}").shows("g 1", "'b'").shows("g:'b'", "'b'").shows("c:'b'", "'b'");
        Check.of("from the { on of the line that does, a ' behind the NAME is an ADVERB; x and y are no NAMES of FUNCTIONS");
        new Check().does("h: {[1=#x;x;h'x]}").shows("h 1 2", "1 2").fails("k:k'1 2", 1, 3).fails("k: {l'x'}", 1, 5)
            .fails("m: {x'a'}", 1, 5).fails("m: {y'a'}", 1, 5).fails("x'a'", 1, 1);
    }

    private static void behindNumbersAndNames() {
        Doc.says("A letter or digit right behind a NUMBER or a NAME (the ninth letter, too),")
            .fails("12a", 1, 2).fails("1a2", 1, 1).fails("_7z", 1, 2).fails("1.5x", 1, 3)
            .fails("1234567890123456789", 1, 18)
            .fails("a1", 1, 1).fails("abcdefgh1", 1, 8).fails("abcdefghi", 1, 8).fails("1+abcdefghijk", 1, 10)
            .does("f: {x}").fails("f1", 1, 1).fails("-f1 2", 1, 2).shows("f 1", "1")
            .shows("1_2", "1 _2").fails("f_1x", 1, 3).shows("f_1", "_1").fails("'a'5", 1, 3).fails("'a'b", 1, 3);
    }

    private static void otherBytes() {
        Doc.says("any other byte,");
        String good = "+-*%&|<>=~!,#?@$^._/\\';()[]{}: 0123456789abcdefghijklmnopqrstuvwxyz";
        for (int b = 0; b < 256; b++) {
            if (good.indexOf(b) < 0) {
                Check check = new Check();
                // Without what stands behind it this line would be done.
                Check.same("byte " + b, check.line("1 " + (char) b + " +"), -1);
                Check.same("byte " + b + " (place)", check.calc.told(1), 2);
            }
        }
        new Check().fails("1+\t2", 1, 2).fails("\"", 1, 0).fails("1 \u00ff", 1, 2).fails("1+1\u0000", 1, 3);
    }

    private static void textsThatAreNone() {
        Doc.says("and a ' that begins a TEXT that is none, stop the reading: error 1 there,")
            .fails("'abc", 1, 0).fails("1 2, 'abc", 1, 5).fails("'", 1, 0).fails("1 + '", 1, 4).fails("# ''", 1, 2)
            .fails("1, ''", 1, 3).fails("1,''", 1, 4).fails("'a' , '" + SIXTY + "c'", 1, 6).fails("'a\tb'", 1, 0)
            .fails("'a\u00e9b'", 1, 0).fails("(1;'a)", 1, 3);
    }

    private static void wrongAhead() {
        Doc.says("if nothing is wrong ahead.")
            .fails("1) \"", 1, 1).fails("(1] 12a", 1, 2).fails("1 'a' 'b", 1, 2).fails("x: \"", 1, 0)
            .fails("x@(0): \"", 1, 0).fails("(1;) 1a", 1, 3).fails("1+ 2a ) (", 1, 4)
            .does("f: {x}").fails("f@(0): 1a", 1, 0).fails("f@(0 \"): 1", 1, 5).fails("x@(0 \"): 1", 1, 5);
    }
}
