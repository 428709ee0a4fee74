/** Promises 1, 2, 4 to 8 and 11 to 14: the calls of the face, but for what lines come to. */
public final class FaceTest {
    public static void main(String[] args) {
        newObject();
        feed();
        lineArguments();
        told();
        point();
        pointerOfTable();
        counts();
        items();
        keepAndBack();
        namesAndLetters();
        Check.end();
    }

    private static void newObject() {
        Check check = new Check();
        Check.same("NONE", ArrayCalculator.NONE, -1);
        Check.same("new: kind", check.calc.kind(), 0);
        Check.same("new: item 0", check.calc.item(0), 0);
        Check.same("new: count 0", check.calc.count(0), 1);
        Check.same("new: levels", check.calc.count(2), 0);
        Check.same("new: printed", check.printed(), "0");
        Check.same("new: names", check.calc.names(0), 0);
        Check.same("new: functions", check.calc.names(1), 0);
        for (int k = -1; k <= 4; k++) {
            Check.same("new: back " + k, check.calc.back(k), false);
        }
        Check.same("new: told 0", check.calc.told(0), 0);
        Check.same("new: told 1", check.calc.told(1), -1);
        Check.same("new: told 2", check.calc.told(2), 0);
        Check.same("new: told 3", check.calc.told(3), 500000);
        Check.same("new: octet ahead of print", new ArrayCalculator().octet(0), -1);
    }

    private static void feed() {
        ArrayCalculator calc = new ArrayCalculator();
        int one = ('1' << 24) | (' ' << 16) | ('2' << 8) | ' ';
        for (int i = 1; i <= 10; i++) {
            Check.same("feed " + i, calc.feed(one, one, one, one, one), 20 * i);
        }
        Check.same("feed 11", calc.feed(one, one, one, one, one), -1);
        Check.same("line of 200", calc.line(200), 0);
        Check.same("line of 200: count", calc.count(0), 100);
        Check.same("the tape is empty then", calc.feed(0, 0, 0, 0, 0), 20);
        Check.same("bytes 0 are none of a line", calc.line(20), -1);
        calc.feed(0x31303030, 0x30323030, 0x30303330, 0x30303034, 0x30303030);
        Check.same("highest first", calc.line(18), 0);
        Check.same("highest first: item", calc.item(0), 100002000030000400L);
        calc.feed(0xff000000, 0, 0, 0, 0);
        Check.same("byte 255", calc.line(1), -1);
        Check.same("byte 255: place", calc.told(1), 0);
    }

    private static void lineArguments() {
        Check check = new Check();
        check.shows("7", "7");
        check.line("nix");
        check.feed("5 6 7 8 9 10".getBytes());
        Check.same("line -1", check.calc.line(-1), -100);
        Check.same("line 21", check.calc.line(21), -100);
        Check.same("line MIN", check.calc.line(Integer.MIN_VALUE), -100);
        Check.same("line MAX", check.calc.line(Integer.MAX_VALUE), -100);
        Check.same("line -100 leaves told", check.calc.told(0), 2);
        Check.same("line -100 leaves the tape", check.calc.feed(0, 0, 0, 0, 0), 40);
        Check.same("line 3", check.calc.line(3), 0);
        Check.same("line 3: printed", check.printed(), "5 6");
        Check.same("line 1 on the empty tape", check.calc.line(1), -100);
        Check.same("line 0", check.calc.line(0), -1);
        Check.same("line 0: place", check.calc.told(1), 0);
        Check.same("the RESULT stays", check.printed(), "5 6");
        check.calc.feed(0x20202020, 0x20202020, 0, 0, 0);
        Check.same("blanks alone", check.calc.line(8), -1);
        Check.same("blanks alone: place", check.calc.told(1), 8);
    }

    private static void told() {
        Check check = new Check();
        check.line("1+2");
        Check.same("told 0", check.calc.told(0), 0);
        Check.same("told 1", check.calc.told(1), -1);
        Check.same("told 2", check.calc.told(2), 6);
        Check.same("told 3", check.calc.told(3), 499994);
        check.line("   1+'a'");
        Check.same("told 0 of an error", check.calc.told(0), 1);
        check.line("   1 + 'a'");
        Check.same("told 0 of an error", check.calc.told(0), 5);
        Check.same("told 1 of an error", check.calc.told(1), 5);
        Check.same("told 2 of an error", check.calc.told(2), 5);
        Check.same("told 3 of an error", check.calc.told(3), 499989);
        check.line("9");
        Check.same("told 2 of the next", check.calc.told(2), 0);
        for (int what : new int[] {-1, 4, Integer.MIN_VALUE, Integer.MAX_VALUE}) {
            Check.same("told " + what, check.calc.told(what), -1);
        }
    }

    private static void point() {
        Check check = new Check();
        ArrayCalculator calc = check.calc;
        Check.same("point 1 without names", calc.point(1, 0), false);
        check.line("b: 1 2");
        check.line("a: 'xyz'");
        check.line("(1;(2;'q';3 4))");
        Check.same("point 1 0", calc.point(1, 0), true);
        Check.same("b", check.printed(), "1 2");
        Check.same("point 2 in a row", calc.point(2, 0), false);
        Check.same("stays", check.printed(), "1 2");
        Check.same("point 1 1", calc.point(1, 1), true);
        Check.same("a", check.printed(), "'xyz'");
        Check.same("point 1 2", calc.point(1, 2), false);
        Check.same("point 1 -1", calc.point(1, -1), false);
        Check.same("stays at a", check.printed(), "'xyz'");
        Check.same("point 0 -9", calc.point(0, -9), true);
        Check.same("RESULT", check.printed(), "(1;(2;'q';3 4))");
        Check.same("point 2 2", calc.point(2, 2), false);
        Check.same("point 2 -1", calc.point(2, -1), false);
        Check.same("point 2 1", calc.point(2, 1), true);
        Check.same("item 1", check.printed(), "(2;'q';3 4)");
        Check.same("point 2 1 again", calc.point(2, 1), true);
        Check.same("item 1 of item 1", check.printed(), "'q'");
        Check.same("point 2 in ONE", calc.point(2, 0), false);
        for (int what : new int[] {-1, 3, Integer.MAX_VALUE, Integer.MIN_VALUE}) {
            Check.same("point " + what, calc.point(what, 0), false);
        }
        check.line("1+");
        Check.same("a failed line points to the RESULT", check.printed(), "(1;(2;'q';3 4))");
        calc.point(2, 0);
        calc.feed(0, 0, 0, 0, 0);
        calc.line(21);
        Check.same("a line that isn't done doesn't", check.printed(), "1");
        calc.line(20);
        calc.point(1, 0);
        check.line("f:{x}");
        Check.same("a function told does", check.printed(), "(1;(2;'q';3 4))");
    }

    private static void pointerOfTable() {
        Check check = new Check();
        check.line("2 3#1 2 3 4 5 6");
        Check.same("a TABLE's item 1", check.calc.point(2, 1), true);
        Check.same("is INTS", check.calc.kind(), 4);
        Check.same("its numbers", check.printed(), "4 5 6");
        check.calc.point(0, 0);
        Check.same("a TABLE's item 2", check.calc.point(2, 2), false);
        check.line("a: 2 2#7");
        check.calc.point(1, 0);
        check.calc.point(2, 0);
        check.calc.keep(0);
        check.calc.back(0);
        Check.same("the POINTER stays through keep and back", check.printed(), "7 7");
    }

    private static void counts() {
        Check check = new Check();
        counted(check, "'a'", 1, 1, -1, 0);
        counted(check, "!0", 4, 0, -1, 1);
        counted(check, "'abc'", 3, 3, -1, 1);
        counted(check, "1 2=1 3", 2, 2, -1, 1);
        counted(check, "5 5000000000", 5, 2, -1, 1);
        counted(check, "2 3#0", 6, 2, 3, 2);
        counted(check, "()", 7, 0, -1, 1);
        counted(check, "(1;())", 7, 2, -1, 2);
        counted(check, "(1;2 2#0;'ab')", 7, 3, -1, 3);
        Check.same("count 3", check.calc.count(3), -1);
        Check.same("count -1", check.calc.count(-1), -1);
    }

    private static void counted(Check check, String line, int kind, int many, int cols, int levels) {
        check.line(line);
        Check.same(line + " kind", check.calc.kind(), kind);
        Check.same(line + " count", check.calc.count(0), many);
        Check.same(line + " columns", check.calc.count(1), cols);
        Check.same(line + " levels", check.calc.count(2), levels);
    }

    private static void items() {
        Check check = new Check();
        check.line("_7");
        Check.same("item 0 of ONE", check.calc.item(0), -7);
        Check.same("item 1 of ONE", check.calc.item(1), 0);
        Check.same("item -1 of ONE", check.calc.item(-1), 0);
        check.line("'ab'");
        Check.same("item 1 of SIGNS", check.calc.item(1), 'b');
        Check.same("item 2 of SIGNS", check.calc.item(2), 0);
        check.line("2 2#3 4 5 6");
        Check.same("item 3 of a TABLE", check.calc.item(3), 6);
        Check.same("item 4 of a TABLE", check.calc.item(4), 0);
        Check.same("item MIN of a TABLE", check.calc.item(Integer.MIN_VALUE), 0);
        check.line("(5;'a')");
        Check.same("item 0 of a NEST", check.calc.item(0), 0);
        check.line("999999999999999999 1");
        Check.same("item 0 of LONGS", check.calc.item(0), 999999999999999999L);
    }

    private static void keepAndBack() {
        Check check = new Check();
        ArrayCalculator calc = check.calc;
        for (int k : new int[] {-1, 4, Integer.MAX_VALUE, Integer.MIN_VALUE}) {
            Check.same("keep " + k, calc.keep(k), false);
            Check.same("back " + k, calc.back(k), false);
        }
        Check.same("keep 0 without names", calc.keep(0), true);
        check.line("a: 1");
        check.line("f: {x+a}");
        Check.same("keep 3", calc.keep(3), true);
        Check.same("back 1", calc.back(1), false);
        check.line("a: 2");
        check.line("f: {x-a}");
        check.line("b: 3");
        int work = calc.told(3);
        Check.same("back 3", calc.back(3), true);
        Check.same("names behind back", calc.names(0), 1);
        Check.same("WORK stays", calc.told(3), work);
        Check.same("RESULT stays", check.printed(), "3");
        check.shows("f 10", "11");
        check.fails("b", 2, 0);
        check.line("a: 5");
        Check.same("what is kept stays as it was", calc.back(3), true);
        check.shows("a", "1");
        check.line("c: 9");
        calc.keep(3);
        check.line("c: 8");
        calc.back(3);
        check.shows("c", "9");
        Check.same("back 0", calc.back(0), true);
        Check.same("no names", calc.names(0) + calc.names(1), 0);
        // f is no NAME of a function any more, so the line stops at what stands behind it.
        check.fails("f 10", 1, 2);
    }

    private static void namesAndLetters() {
        Check check = new Check();
        ArrayCalculator calc = check.calc;
        check.line("zebra: 1");
        check.line("abcdefgh: 2");
        check.line("fun: {x}");
        check.line("zebra: 5");
        Check.same("names 0", calc.names(0), 2);
        Check.same("names 1", calc.names(1), 1);
        Check.same("names 2", calc.names(2), -1);
        Check.same("names -1", calc.names(-1), -1);
        spells(calc, 0, 0, "zebra");
        spells(calc, 0, 1, "abcdefgh");
        spells(calc, 1, 0, "fun");
        spells(calc, 0, 2, "");
        spells(calc, 1, 1, "");
        spells(calc, 2, 0, "");
        spells(calc, -1, 0, "");
        spells(calc, 0, -1, "");
        Check.same("letter -1", calc.letter(0, 0, -1), -1);
        Check.same("letter MAX", calc.letter(0, 0, Integer.MAX_VALUE), -1);
        Check.same("letter 8", calc.letter(0, 1, 8), -1);
        Check.same("letter 64", calc.letter(0, 1, 64), -1);
        check.line("zebra: {y}");
        spells(calc, 0, 0, "abcdefgh");
        spells(calc, 1, 1, "zebra");
        check.line("fun: 4");
        spells(calc, 0, 1, "fun");
        spells(calc, 1, 0, "zebra");
        Check.same("names 0 then", calc.names(0), 2);
        Check.same("names 1 then", calc.names(1), 1);
        check.fails("new: 1+", 1, 7);
        Check.same("a failed line gives no name", calc.names(0), 2);
        check.line("c: 7");
        check.line("d: 8");
        check.line("abcdefgh: {x+5}");
        check.line("g: {x+6}");
        spells(calc, 0, 0, "fun");
        spells(calc, 0, 1, "c");
        spells(calc, 0, 2, "d");
        check.shows("fun,c,d", "4 7 8");
        check.line("zebra: 1");
        spells(calc, 1, 0, "abcdefgh");
        spells(calc, 1, 1, "g");
        check.shows("(g 1),abcdefgh 1", "7 6");
    }

    private static void spells(ArrayCalculator calc, int what, int i, String name) {
        StringBuilder got = new StringBuilder();
        for (int k = 0; k < 9 && calc.letter(what, i, k) != -1; k++) {
            got.append((char) calc.letter(what, i, k));
        }
        Check.same("name " + what + " " + i, got.toString(), name);
    }
}
