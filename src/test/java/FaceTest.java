/** Promises 1 to 8 and 11 to 14: the calls of the face, but for what lines come to. */
public final class FaceTest {
    private static final int[] ODD = {-1, Integer.MIN_VALUE, Integer.MAX_VALUE, 256, 65536};

    public static void main(String[] args) {
        all();
        Check.end();
    }

    static void all() {
        whatItIs();
        mostCalls();
        none();
        newObject();
        feed();
        feedTooMuch();
        line();
        lineNotDone();
        told();
        toldAhead();
        pointResult();
        pointItems();
        pointNowhere();
        pointerOfLines();
        kind();
        count();
        item();
        keep();
        back();
        backOfNothing();
        names();
        letter();
        lettersInOrder();
    }

    private static void whatItIs() {
        Doc.says("An array calculator: lines are worked out from the right, of values that are single ones, rows of bits, signs, "
                + "small and great numbers, tables and nests of values; signs of the line work on whole values, are spread over "
                + "their items, folded and run along them; names stand for values and for functions.")
            .shows("2*3+4", "14", 0).shows("1 2=1 3", "10b", 2).shows("'ab'", "'ab'", 3).shows("1 2", "1 2", 4)
            .shows("1 3000000000", "1 3000000000", 5).shows("2 2#1", "[1 1;1 1]", 6).shows("(1;'a')", "(1;'a')", 7)
            .shows("#'(1 2;3)", "2 1", 4).shows("+/1 2 3", "6", 0).shows("+\\1 2 3", "1 3 6", 4).does("a: 5", "f: {x+a}")
            .shows("f 1", "6", 0);
    }

    private static void mostCalls() {
        ArrayCalculator calc = Doc.says("An object is used for at most 512 calls after it has been made; what later calls answer is "
                + "free.").calc;
        calc.feed(('a' << 24) | (':' << 16) | ('0' << 8), 0, 0, 0, 0);
        calc.line(3);
        // a: a+1, again and again: 255 times with the two calls ahead.
        int again = ('a' << 24) | (':' << 16) | ('a' << 8) | '+';
        for (int i = 1; i < 255; i++) {
            Check.same("feed " + i, calc.feed(again, '1' << 24, 0, 0, 0), 20);
            Check.same("line " + i, calc.line(5), 0);
        }
        Check.same("the 511th call", calc.item(0), 254);
        Check.same("the 512th call", calc.told(3), 500000 - 254 * 6);
        for (int i = 0; i < 1000; i++) {
            calc.feed(again, '1' << 24, 0, 0, 0);
            calc.line(5);
        }
    }

    private static void none() {
        Doc.says("The constants: `NONE = -1`: There is none.");
        Check.same("NONE", ArrayCalculator.NONE, -1);
    }

    private static void newObject() {
        Check check = Doc.says("`ArrayCalculator()`: No names, nothing kept; the RESULT is ONE 0.");
        Check.same("kind", check.calc.kind(), 0);
        Check.same("item 0", check.calc.item(0), 0);
        Check.same("count 0", check.calc.count(0), 1);
        Check.same("count 1", check.calc.count(1), -1);
        Check.same("levels", check.calc.count(2), 0);
        Check.same("printed", check.printed(), "0");
        Check.same("names of values", check.calc.names(0), 0);
        Check.same("names of functions", check.calc.names(1), 0);
        Check.same("letter of a value", check.calc.letter(0, 0, 0), -1);
        Check.same("letter of a function", check.calc.letter(1, 0, 0), -1);
        Check.same("point to a name", check.calc.point(1, 0), false);
        Check.same("point to the RESULT", check.calc.point(0, 0), true);
        for (int k = -1; k <= 4; k++) {
            Check.same("back " + k, check.calc.back(k), false);
        }
        check.fails("a", 2, 0);
        Check.same("the RESULT still", check.printed(), "0");
        // What one object does is nothing to another.
        new Check().does("a: 5");
        check.fails("a", 2, 0);
    }

    private static void feed() {
        ArrayCalculator calc = Doc.says("`int feed(int a, int b, int c, int d, int e)`: Twenty bytes come on the tape, of each "
                + "number the highest first: how many there are.").calc;
        Check.same("feed 1", calc.feed(0x31303030, 0x30323030, 0x30303330, 0x30303034, 0x30307a7a), 20);
        Check.same("feed 2", calc.feed(0, 0, 0, 0, 0), 40);
        Check.same("highest first", calc.line(18), 0);
        Check.same("highest first: item", calc.item(0), 100002000030000400L);
        Check.same("the tape is empty then", calc.feed(0x20202020, 0x20202020, 0x20202020, 0x20202020, 0x20202037), 20);
        Check.same("the twentieth byte", calc.line(20), 0);
        Check.same("the twentieth byte: item", calc.item(0), 7);
        calc.feed(0x20202020, 0x20202020, 0x20202020, 0x20202020, 0x20202038);
        calc.feed(0x39000000, 0, 0, 0, 0);
        Check.same("the twenty-first byte", calc.line(21), 0);
        Check.same("the twenty-first byte: item", calc.item(0), 89);
        calc.feed(0xff000000, 0, 0, 0, 0);
        Check.same("byte 255", calc.line(1), -1);
        Check.same("byte 255: place", calc.told(1), 0);
        calc.feed(0, 0, 0, 0, 0);
        Check.same("bytes 0 are none of a line", calc.line(20), -1);
    }

    private static void feedTooMuch() {
        ArrayCalculator calc = Doc.says("NONE, doing nothing: there would be more than 200.").calc;
        int one = ('1' << 24) | (' ' << 16) | ('2' << 8) | ' ';
        for (int i = 1; i <= 10; i++) {
            Check.same("feed " + i, calc.feed(one, one, one, one, one), 20 * i);
        }
        int three = ('3' << 24) | (' ' << 16) | ('3' << 8) | ' ';
        Check.same("feed 11", calc.feed(three, three, three, three, three), -1);
        Check.same("feed 12", calc.feed(three, three, three, three, three), -1);
        Check.same("no line is longer", calc.line(201), -100);
        Check.same("line of 200", calc.line(200), 0);
        Check.same("line of 200: count", calc.count(0), 100);
        Check.same("item 0", calc.item(0), 1);
        Check.same("item 99", calc.item(99), 2);
        Check.same("the tape is empty then", calc.feed(three, three, three, three, three), 20);
    }

    private static void line() {
        Check check = Doc.says("`int line(int n)`: The first n bytes of the tape are a line, which is done; the tape is empty then: 0, "
                + "or the ERROR times -1.");
        check.feed("5 6 7 8 9 10".getBytes());
        Check.same("line 3", check.calc.line(3), 0);
        Check.same("line 3: printed", check.printed(), "5 6");
        Check.same("the tape is empty", check.calc.line(1), -100);
        Check.same("line 0", check.calc.line(0), -1);
        Check.same("line 0: place", check.calc.told(1), 0);
        Check.same("the RESULT stays", check.printed(), "5 6");
        check.feed("1+ 'a'".getBytes());
        Check.same("error 5", check.calc.line(6), -5);
        Check.same("the tape is empty behind an error", check.calc.feed(0, 0, 0, 0, 0), 20);
        Check.same("error 1", check.calc.line(20), -1);
        Check.same("the tape is empty behind error 1", check.calc.line(1), -100);
        check.feed("12345678".getBytes());
        Check.same("line 8", check.calc.line(8), 0);
        Check.same("line 8: item", check.calc.item(0), 12345678);
        check.calc.feed(0x20202020, 0x20202020, 0, 0, 0);
        Check.same("blanks alone", check.calc.line(8), -1);
        Check.same("blanks alone: place", check.calc.told(1), 8);
        int[] errors = {1, 2, 3, 4, 5, 6, 7, 8};
        String[] lines = {"1+", "nil", "!1 2", "*()", "- 'a'", "4294967296*4294967296", "5 6@2", "25#,()"};
        for (int i = 0; i < lines.length; i++) {
            Check.same(lines[i], check.line(lines[i]), -errors[i]);
        }
    }

    private static void lineNotDone() {
        Check check = Doc.says("-100, doing nothing: n isn't 0 to the tape's bytes.");
        Check.same("line 1 of no bytes", check.calc.line(1), -100);
        Check.same("line 1: told 0", check.calc.told(0), 0);
        check.does("(7;'a')").fails("nix", 2, 0);
        check.calc.point(2, 0);
        check.feed("5 6 7 8 9 10".getBytes());
        for (int n : new int[] {-1, 21, Integer.MIN_VALUE, Integer.MAX_VALUE}) {
            Check.same("line " + n, check.calc.line(n), -100);
        }
        Check.same("told stays", check.calc.told(0), 2);
        Check.same("told stays (place)", check.calc.told(1), 0);
        Check.same("the POINTER stays", check.calc.item(0), 7);
        Check.same("the tape stays", check.calc.feed(0x20202020, 0x20202020, 0x20202020, 0x20202020, 0x20202039), 40);
        Check.same("line 41", check.calc.line(41), -100);
        Check.same("line 5", check.calc.line(5), 0);
        Check.same("line 5: printed", check.printed(), "5 6 7");
    }

    private static void told() {
        Check check = Doc.says("`int told(int what)`: Of the latest line: 0 its error (0 none), 1 its place (NONE without), 2 the WORK "
                + "that it took");
        check.does("1+2");
        tells(check.calc, 0, -1, 6, 499994);
        Check.same("error 5", check.line("   1 + 'a'"), -5);
        tells(check.calc, 5, 5, 5, 499989);
        Check.same("error 1", check.line("   1 + )"), -1);
        tells(check.calc, 1, 7, 0, 499989);
        check.does("9");
        tells(check.calc, 0, -1, 0, 499989);
        check.does("f: {x}");
        tells(check.calc, 0, -1, 0, 499989);
        check.does("f 5");
        tells(check.calc, 0, -1, 5, 499984);
    }

    private static void tells(ArrayCalculator calc, int error, int place, int work, int left) {
        Check.same("told 0", calc.told(0), error);
        Check.same("told 1", calc.told(1), place);
        Check.same("told 2", calc.told(2), work);
        Check.same("told 3", calc.told(3), left);
    }

    private static void toldAhead() {
        Check check = Doc.says("(ahead of the first one 0, NONE, 0); 3 the WORK that is left. NONE for others.");
        tells(check.calc, 0, -1, 0, 500000);
        check.calc.line(-1);
        tells(check.calc, 0, -1, 0, 500000);
        Check.same("told 4", check.calc.told(4), -1);
        for (int what : ODD) {
            Check.same("told " + what, check.calc.told(what), -1);
        }
    }

    private static void pointResult() {
        Check check = Doc.says("`boolean point(int what, int k)`: The POINTER goes to the RESULT (what 0, whatever k), to the value of "
                + "the k-th name of a value (1; names as they came to stand for values),");
        ArrayCalculator calc = check.calc;
        check.does("b: 1 2", "f: {x}", "a: 'xyz'", "9");
        Check.same("point 1 0", calc.point(1, 0), true);
        Check.same("b", check.printed(), "1 2");
        Check.same("point 1 1", calc.point(1, 1), true);
        Check.same("a", check.printed(), "'xyz'");
        for (int k : ODD) {
            calc.point(1, 0);
            Check.same("point 0 " + k, calc.point(0, k), true);
            Check.same("RESULT", check.printed(), "9");
        }
        check.does("b: 3 4", "f: 5", "a: {x}", "a: 6", "9");
        calc.point(1, 0);
        Check.same("b keeps its place", check.printed(), "3 4");
        calc.point(1, 1);
        Check.same("f came then", check.printed(), "5");
        calc.point(1, 2);
        Check.same("a came last", check.printed(), "6");
    }

    private static void pointItems() {
        Check check = Doc.says("or from a NEST or TABLE to its item k (2).");
        ArrayCalculator calc = check.calc;
        check.does("(1;(2;'q';3 4))");
        Check.same("point 2 1", calc.point(2, 1), true);
        Check.same("item 1", check.printed(), "(2;'q';3 4)");
        Check.same("point 2 1 again", calc.point(2, 1), true);
        Check.same("item 1 of item 1", check.printed(), "'q'");
        check.does("2 3#1 2 3 4 5 6");
        Check.same("a TABLE's item 0", calc.point(2, 0), true);
        Check.same("its numbers", check.printed(), "1 2 3");
        check.calc.point(0, 0);
        Check.same("a TABLE's item 1", calc.point(2, 1), true);
        Check.same("is INTS", calc.kind(), 4);
        Check.same("its numbers", check.printed(), "4 5 6");
    }

    private static void pointNowhere() {
        Check check = Doc.says("False, staying: there is none such.");
        ArrayCalculator calc = check.calc;
        Check.same("point 1 without names", calc.point(1, 0), false);
        Check.same("point 2 from ONE", calc.point(2, 0), false);
        check.does("b: 1 2", "f: {x}", "(1;(2;'q'))");
        calc.point(2, 1);
        Check.same("point 1 1", calc.point(1, 1), false);
        Check.same("point 2 2", calc.point(2, 2), false);
        for (int k : ODD) {
            Check.same("point 1 " + k, calc.point(1, k), false);
            Check.same("point 2 " + k, calc.point(2, k), false);
            Check.same("point " + k, calc.point(k, 0), false);
        }
        Check.same("point 3", calc.point(3, 0), false);
        Check.same("stays", check.printed(), "(2;'q')");
        check.does("2 2#1 2 3 4");
        Check.same("a TABLE's item 2", calc.point(2, 2), false);
        Check.same("a TABLE's item -1", calc.point(2, -1), false);
        calc.point(2, 1);
        Check.same("point 2 from a row", calc.point(2, 0), false);
        Check.same("stays at the row", check.printed(), "3 4");
        check.does("()");
        Check.same("point 2 from an empty NEST", calc.point(2, 0), false);
        check.does("b: {x}");
        Check.same("point to a name that stands for a function", calc.point(1, 0), false);
        check.does("'ab'");
        Check.same("point 2 from SIGNS", calc.point(2, 0), false);
        check.does("'a'");
        Check.same("point 2 from a SIGN", calc.point(2, 0), false);
    }

    private static void pointerOfLines() {
        Check check = Doc.says("(A line that is done, or fails, puts it on the RESULT.)").does("a: 5 6", "(1;2 3)");
        ArrayCalculator calc = check.calc;
        for (String line : new String[] {"1+", "nil", "5 6@2"}) {
            calc.point(1, 0);
            Check.same("at a", check.printed(), "5 6");
            check.line(line);
            Check.same("a failed line", check.printed(), "(1;2 3)");
        }
        calc.point(2, 1);
        check.does("f:{x}");
        Check.same("a function told", check.printed(), "(1;2 3)");
        calc.point(2, 1);
        check.does("7 8");
        Check.same("a line that is done", check.printed(), "7 8");
        // The POINTER is on the value that it went to, whatever the name has then.
        calc.point(1, 0);
        calc.keep(0);
        Check.same("keep leaves it", check.printed(), "5 6");
    }

    private static void kind() {
        Check check = Doc.says("`int kind()`: The KIND at the POINTER, as the act @ tells it.");
        String[] lines = {"5", "'a'", "1=1 2", "'ab'", "1 2", "1 3000000000", "2 2#1", "()"};
        for (int kind = 0; kind < lines.length; kind++) {
            check.does("a: " + lines[kind]);
            Check.same(lines[kind], check.calc.kind(), kind);
            check.shows("@a", Integer.toString(kind));
            check.calc.point(1, 0);
            Check.same("a: " + lines[kind], check.calc.kind(), kind);
        }
        check.does("(1;2 2#1)");
        check.calc.point(2, 1);
        Check.same("an item", check.calc.kind(), 6);
        check.calc.point(2, 1);
        Check.same("a LINE", check.calc.kind(), 4);
    }

    private static void count() {
        Check check = Doc.says("`int count(int what)`: Its COUNT (what 0), of a TABLE the columns (1), its LEVELS (2). NONE for others.");
        counted(check, "5", 1, -1, 0);
        counted(check, "'a'", 1, -1, 0);
        counted(check, "!0", 0, -1, 1);
        counted(check, "'abc'", 3, -1, 1);
        counted(check, "1 2=1 3", 2, -1, 1);
        counted(check, "5 5000000000", 2, -1, 1);
        counted(check, "2 3#0", 2, 3, 2);
        counted(check, "12 1#0", 12, 1, 2);
        counted(check, "()", 0, -1, 1);
        counted(check, "(1;())", 2, -1, 2);
        counted(check, "(1;2 2#0;'ab')", 3, -1, 3);
        check.calc.point(2, 1);
        Check.same("columns at the POINTER", check.calc.count(1), 2);
        Check.same("count 3", check.calc.count(3), -1);
        for (int what : ODD) {
            Check.same("count " + what, check.calc.count(what), -1);
        }
    }

    private static void counted(Check check, String line, int many, int cols, int levels) {
        check.does(line);
        Check.same(line + " count", check.calc.count(0), many);
        Check.same(line + " columns", check.calc.count(1), cols);
        Check.same(line + " levels", check.calc.count(2), levels);
    }

    private static void item() {
        Check check = Doc.says("`long item(int k)`: Of ONE or a ROW item k, of a TABLE number k line by line: the number, of a SIGN its "
                + "byte. 0 where there is none.");
        itemsAre(check, "_7", -7);
        itemsAre(check, "'a'", 'a');
        itemsAre(check, "'ab'", 'a', 'b');
        itemsAre(check, "1 2=1 2", 1, 1);
        itemsAre(check, "5 6 _7", 5, 6, -7);
        itemsAre(check, "999999999999999999 1", 999999999999999999L, 1);
        itemsAre(check, "_854775808-9223372036*1000000000", Long.MIN_VALUE);
        itemsAre(check, "2 3#3 4 5 6 7 8", 3, 4, 5, 6, 7, 8);
        itemsAre(check, "!0");
        itemsAre(check, "()");
        itemsAre(check, "(5;'a')");
        check.calc.point(2, 0);
        Check.same("item 0 at the POINTER", check.calc.item(0), 5);
    }

    private static void itemsAre(Check check, String line, long... due) {
        check.does(line);
        for (int k = 0; k < due.length; k++) {
            Check.same(line + " item " + k, check.calc.item(k), due[k]);
        }
        Check.same(line + " item " + due.length, check.calc.item(due.length), 0);
        for (int k : ODD) {
            Check.same(line + " item " + k, check.calc.item(k), 0);
        }
    }

    private static void keep() {
        Check check = Doc.says("`boolean keep(int k)`: All names with what they stand for are kept as k (0 to 3), in place of what was. "
                + "False: no such k.");
        ArrayCalculator calc = check.calc;
        for (int k : ODD) {
            Check.same("keep " + k, calc.keep(k), false);
        }
        Check.same("keep 4", calc.keep(4), false);
        for (int k = 0; k < 4; k++) {
            check.does("a: " + k, "f: {x+" + 10 * k + "}", "g: {x}", "g: a");
            Check.same("keep " + k, calc.keep(k), true);
        }
        check.does("a: 99", "f: 98", "h: {x}");
        for (int k = 3; k >= 0; k--) {
            Check.same("back " + k, calc.back(k), true);
            check.shows("(a;f 5;g)", k + " " + (5 + 10 * k) + " " + k);
            Check.same("values", calc.names(0), 2);
            Check.same("functions", calc.names(1), 1);
        }
        check.does("a: 7", "b: 8");
        Check.same("keep 0 again", calc.keep(0), true);
        check.does("a: 6", "b: 5");
        calc.back(0);
        check.shows("(a;b)", "7 8");
        calc.back(1);
        check.shows("a", "1").fails("b", 2, 0);
    }

    private static void back() {
        Check check = Doc.says("`boolean back(int k)`: The names are as they were kept as k (RESULT, WORK and POINTER stay).");
        ArrayCalculator calc = check.calc;
        Check.same("keep 0 without names", calc.keep(0), true);
        check.does("a: 1", "f: {x+a}", "t: 2 2#7");
        Check.same("keep 3", calc.keep(3), true);
        check.does("a: 2", "f: {x-a}", "b: 1+3");
        int work = calc.told(3);
        calc.point(1, 2);
        Check.same("the POINTER", check.printed(), "4");
        Check.same("back 3", calc.back(3), true);
        Check.same("the POINTER stays", check.printed(), "4");
        Check.same("names behind back", calc.names(0), 2);
        Check.same("WORK stays", calc.told(3), work);
        Check.same("the WORK of the line stays", calc.told(2), 6);
        calc.point(0, 0);
        Check.same("RESULT stays", check.printed(), "4");
        check.shows("f 10", "11").fails("b", 2, 0).does("a: 5", "t@(0): 1 1");
        Check.same("what is kept stays as it was", calc.back(3), true);
        check.shows("(a;t)", "(1;[7 7;7 7])");
        Check.same("back 0", calc.back(0), true);
        Check.same("no names", calc.names(0) + calc.names(1), 0);
        // f is no NAME of a function any more, so the line stops at what stands behind it.
        check.fails("f 10", 1, 2).fails("a", 2, 0);
    }

    private static void backOfNothing() {
        Check check = Doc.says("False, doing nothing: nothing is kept so.").does("a: 1");
        ArrayCalculator calc = check.calc;
        calc.keep(1);
        check.does("a: 2", "f: {x}");
        for (int k : new int[] {0, 2, 3, 4, -1, Integer.MIN_VALUE, Integer.MAX_VALUE}) {
            Check.same("back " + k, calc.back(k), false);
        }
        Check.same("values", calc.names(0), 1);
        Check.same("functions", calc.names(1), 1);
        check.shows("f a", "2");
        Check.same("back 1", calc.back(1), true);
        check.shows("a", "1");
    }

    private static void names() {
        Check check = Doc.says("`int names(int what)`: How many names of values (what 0), of functions (1) there are. NONE for others.");
        ArrayCalculator calc = check.calc;
        check.does("zebra: 1", "abcdefgh: 2", "fun: {x}", "zebra: 5", "1+1");
        Check.same("names 0", calc.names(0), 2);
        Check.same("names 1", calc.names(1), 1);
        Check.same("names 2", calc.names(2), -1);
        for (int what : ODD) {
            Check.same("names " + what, calc.names(what), -1);
        }
        check.does("zebra: {y}", "fun: {y}");
        Check.same("names 0 then", calc.names(0), 1);
        Check.same("names 1 then", calc.names(1), 2);
        check.fails("new: 1+", 1, 7).fails("new: nil", 2, 5);
        Check.same("a failed line gives no name", calc.names(0), 1);
    }

    private static void letter() {
        Check check = Doc.says("`int letter(int what, int i, int k)`: Letter k of the i-th name of a value (what 0), a function (1),");
        ArrayCalculator calc = check.calc;
        check.does("zebra: 1", "abcdefgh: 2", "fun: {x}", "z: 3");
        spells(calc, 0, 0, "zebra");
        spells(calc, 0, 1, "abcdefgh");
        spells(calc, 0, 2, "z");
        spells(calc, 1, 0, "fun");
        Check.same("letter 0 of z", calc.letter(0, 2, 0), 'z');
        Check.same("letter 1 of z", calc.letter(0, 2, 1), -1);
        Check.same("letter 7", calc.letter(0, 1, 7), 'h');
        spells(calc, 0, 3, "");
        spells(calc, 1, 1, "");
        spells(calc, 2, 0, "");
        for (int k : ODD) {
            spells(calc, k, 0, "");
            spells(calc, 0, k, "");
            spells(calc, 1, k, "");
            Check.same("letter " + k, calc.letter(0, 0, k), -1);
        }
        Check.same("letter 8", calc.letter(0, 1, 8), -1);
        Check.same("letter 64", calc.letter(0, 1, 64), -1);
    }

    private static void lettersInOrder() {
        Check check = Doc.says("as they came to stand for one; NONE if there is none.");
        ArrayCalculator calc = check.calc;
        calc.keep(1);
        check.does("zebra: 1", "abcdefgh: 2", "fun: {x}", "zebra: {y}");
        spells(calc, 0, 0, "abcdefgh");
        spells(calc, 0, 1, "");
        spells(calc, 1, 0, "fun");
        spells(calc, 1, 1, "zebra");
        check.does("fun: 4");
        spells(calc, 0, 1, "fun");
        spells(calc, 1, 0, "zebra");
        spells(calc, 1, 1, "");
        check.does("c: 7", "d: 8", "abcdefgh: {x+5}", "g: {x+6}", "c: 9");
        spells(calc, 0, 0, "fun");
        spells(calc, 0, 1, "c");
        spells(calc, 0, 2, "d");
        check.shows("fun,c,d", "4 9 8").does("zebra: 1", "abcdefgh: {x+7}");
        spells(calc, 1, 0, "abcdefgh");
        spells(calc, 1, 1, "g");
        check.shows("(g 1),abcdefgh 1", "7 8").does("r: 1 2", "c: {x}", "r@(0): 5", "c: 1");
        spells(calc, 0, 4, "c");
        calc.keep(0);
        check.does("fun: {x}", "fun: 2");
        spells(calc, 0, 0, "d");
        calc.back(0);
        spells(calc, 0, 0, "fun");
        calc.back(1);
        spells(calc, 0, 0, "");
        spells(calc, 1, 0, "");
    }

    private static void spells(ArrayCalculator calc, int what, int i, String name) {
        StringBuilder got = new StringBuilder();
        for (int k = 0; k < 9 && calc.letter(what, i, k) != -1; k++) {
            got.append((char) calc.letter(what, i, k));
        }
        Check.same("name " + what + " " + i, got.toString(), name);
    }
}
