/** PART 2, but for tokens and AMENDED: the form of lines, how they are worked out, names, and errors. */
public final class LinesTest {
    private static final String NO_ITEM = "(0# 'a')";

    public static void main(String[] args) {
        all();
        Check.end();
    }

    static void all() {
        forms();
        does();
        nouns();
        indexed();
        cannotGoOn();
        mostOpen();
        secondForm();
        namesOfFunctions();
        ownNames();
        readWhenTold();
        numbersAndTexts();
        groups();
        choices();
        indices();
        fromTheRight();
        naming();
        naming40();
        places();
        errorsKeep();
        errors();
        order();
    }

    private static void forms() {
        Doc.says("line = [NAME \":\"] (function | expr) | NAME \"@\" \"(\" expr \")\" \":\" expr.")
            .shows("1+2", "3").shows("a: 1+2 3", "3 4").shows(" a : 5 6 ", "5 6").shows("f: {x}", "5 6")
            .shows("a@(0): 7", "7 6").shows(" a @ ( 1 ) : 8 ", "7 8")
            .fails("", 1, 0).fails("   ", 1, 3).fails("a:", 1, 2).fails("a:b:5", 1, 3).fails("1:2", 1, 1).fails(":5", 1, 0)
            .fails("1;2", 1, 1).fails("a@(0):", 1, 6).fails("a@(0):b:5", 1, 7).fails("a@(0): {x}", 1, 7).fails("(a: 5)", 1, 2)
            .fails("a@(0;1): 5", 1, 4).fails("a@(): 5", 1, 3).fails("a@(0)+1: 2", 1, 7).fails("5@(0): 2", 1, 5);
        Doc.says("function = \"{\" expr \"}\" (with a NAME ahead alone).")
            .does("f: {x}", "g:{ x }").fails("{x}", 1, 0).fails("1+{x}", 1, 2).fails("({x})", 1, 1).fails("(f:{x})", 1, 2)
            .fails("f:{x", 1, 4).fails("f:{}", 1, 3).fails("f:{x;y}", 1, 4).fails("f:{x}+1", 1, 5).fails("f:1+{x}", 1, 4)
            .fails("f:{{x}}", 1, 3).fails("h:{k:x}", 1, 4).fails("f:{x}}", 1, 5).fails("5:{x}", 1, 1);
    }

    private static void does() {
        Doc.says("expr = noun [does expr] | does expr.")
            .shows("5", "5").shows("5-2", "3").shows("-5", "_5").shows("- - 5", "5").shows("5- -2", "7").shows("2*3+4", "14")
            .fails("5-", 1, 2).fails("-", 1, 1).fails("5 'a'", 1, 2).fails("(1)(2)", 1, 3);
        Doc.says("does = (VERB | NAME) {ADVERB} (at most 4 of them), where NAME is one of a FUNCTION.")
            .does("f: {x}", "g: {x-y}", "a: 5")
            .shows("-''''1", "(((,_1)))").fails("-'''''1", 1, 5).shows("-////1", "1").fails("-/////1", 1, 5)
            .fails("-////\\1", 1, 5).shows("f''''1", "(((,1)))").fails("f'''''1", 1, 5).shows("7 g/1 2", "4")
            .fails("2 g/////1", 1, 7).shows("9 g 2", "7").fails("9 a 2", 1, 2).fails("a 2", 1, 2).fails("a/2", 1, 1);
    }

    private static void nouns() {
        Doc.says("noun = (NUMBER {NUMBER} | TEXT | NAME | \"(\" [expr {\";\" expr}] \")\" | "
                + "\"[\" expr \";\" expr \";\" expr \"]\") {\"@\" \"(\" expr \")\"}, where NAME is none of a FUNCTION.")
            .does("a: 5 6", "f: {x}")
            .shows("1 2 3", "1 2 3").shows("'ab'", "'ab'").shows("a", "5 6").shows("()", "()").shows("(1)", "1")
            .shows("(1;2;3)", "1 2 3").shows("[1;2;3]", "2").shows("a@(1)@(0)", "error 3 at 5").shows("(a;1)@(0)@(1)", "6")
            .shows("'ab'@(1)", "'b'").shows("[1;a;0]@(0)", "5").shows("7 8@(1)", "8")
            .fails("f", 1, 1).fails("1+f", 1, 3).fails("(f)", 1, 2).fails("(f;1)", 1, 2).fails("[f;1;2]", 1, 2)
            .fails("(;1)", 1, 1).fails("(1;)", 1, 3).fails("(1;;2)", 1, 3).fails("[]", 1, 1).fails("[1;2]", 1, 4)
            .fails("[1]", 1, 2).fails("[1;2;3;4]", 1, 6).fails("[1;2;3)", 1, 6).fails("[;2;3]", 1, 1).fails("(1]", 1, 2)
            .fails("1 a", 1, 2).fails("a 'b'", 1, 2).fails("'a' 'b'", 1, 4).fails("(1)2", 1, 3);
    }

    private static void indexed() {
        Doc.says("(A @ with a ( behind it that stands behind a noun is always that.)")
            .does("a: 5 6 7", "f: {x}")
            .shows("a@(1)+10", "16").shows("a@1+1", "7").shows("a@ (1)+10", "16").shows("5 6 7 @(1)+10", "16")
            .shows("'abc'@(1)= 'b'", "1").shows("(1;2)@(0)", "1").fails("a@()", 1, 3).fails("a@(1;2)", 1, 4)
            .fails("a@(1", 1, 4).fails("a@(1) 5", 1, 6)
            // Behind no noun it is the act of the VERB @.
            .shows("@(1)", "0").shows("@(1 2)", "4").shows("-@('a')", "_1").shows("f@(5)", "0").shows("@()", "7")
            .shows("a@'(0 1;2)", "error 4 at 1").shows("a-@(1)", "5 6 7");
    }

    private static void cannotGoOn() {
        Doc.says("The first token that can't go on is error 1, at it, or at the line's end (its n bytes);")
            .fails("1+", 1, 2).fails("1+  ", 1, 4).fails("(1;2", 1, 4).fails("(1;2  ", 1, 6).fails(")", 1, 0)
            .fails("1)", 1, 1).fails("1 2 ;", 1, 4).fails("((1)", 1, 4).fails("[1;2;3", 1, 6).fails("f:{x  ", 1, 6)
            .fails("1 + + ) 2 ]", 1, 6).fails("  /1", 1, 2).fails("a:;", 1, 2).fails("1+]2)", 1, 2);
        Check check = new Check();
        check.feed("1+2".getBytes());
        Check.same("the line ends at its n bytes", check.calc.line(2), -1);
        Check.same("the line ends at its n bytes (place)", check.calc.told(1), 2);
    }

    private static void mostOpen() {
        String marks = ")".repeat(12);
        Doc.says("of ( [ { at most 12 are open (the next one is one that can't go on).")
            .shows("(".repeat(12) + "1" + marks, "1").fails("(".repeat(13) + "1)" + marks, 1, 12)
            .shows("[1;".repeat(12) + "2" + ";3]".repeat(12), "2").fails("[1;".repeat(13) + "2" + ";3]".repeat(13), 1, 36)
            .fails("[".repeat(13) + "1", 1, 12)
            .does("f:{" + "(".repeat(11) + "x" + ")".repeat(11) + "}")
            .fails("f:{" + "(".repeat(12) + "x" + marks + "}", 1, 14)
            .does("f:{" + "[1;".repeat(11) + "x" + ";0]".repeat(11) + "}")
            .fails("f:{" + "[1;".repeat(12) + "x", 1, 36)
            .does("c: 1 0").shows("c@(".repeat(12) + "1" + marks, "1").fails("c@(".repeat(13) + "1)" + marks, 1, 38)
            .shows("(".repeat(11) + "c@(1)" + ")".repeat(11), "0").fails("(".repeat(12) + "c@(1)" + marks, 1, 14)
            .does("c@(" + "(".repeat(11) + "1" + ")".repeat(11) + "):5")
            .fails("c@(" + "(".repeat(12) + "1" + marks + "):5", 1, 14)
            // What is closed is open no more.
            .shows("(1)+(2)+(3)+(4)+(5)+(6)+(7)+(8)+(9)+(10)+(11)+(12)+(13)", "91")
            .does("c@(0):" + "(".repeat(12) + "1" + marks).fails("c@(0):" + "(".repeat(13) + "1)" + marks, 1, 18);
    }

    private static void secondForm() {
        Doc.says("A line of the second form is one that begins with NAME @ ( and has a : right behind the token that closes "
                + "the ( (for that, each of ( [ { opens, each of ) ] } closes).")
            .does("a: 5 6 7")
            .shows("a@(a@(0)-5): 1", "1 6 7").shows("a@([1;0;1]): 2", "2 6 7").shows("a@((1)): 3", "2 3 7")
            .fails("a@({0}): 2", 1, 3).fails("a@((0);): 2", 1, 6).fails("a@(0)+1: 2", 1, 7).fails("a@0: 2", 1, 3)
            .fails("a-(0): 2", 1, 5).fails("a@(0): ", 1, 7).fails("a@(1)):5", 1, 5).fails("a@([1)):5", 1, 5)
            // x at the beginning tells whether it is one: then error 1 is at it.
            .fails("x@(0):5", 1, 0).fails("x@(0)", 2, 0).fails("x@(0)+1:5", 1, 7).fails("x@0: 2", 1, 3)
            .fails("x-(0): 2", 1, 5).fails("x@([): 2", 1, 4).fails("x@([)): 2", 1, 0).fails("x@([)]): 2", 1, 4)
            .fails("x@(]:5", 1, 0).fails("x@(}:5", 1, 0).fails("x@({]}:5", 1, 0).fails("x@({}}:5", 1, 0)
            .fails("x@(0;(1]:5", 1, 4).fails("x@((1]):5", 1, 0).fails("x@(0) :5", 1, 0).fails("(x@(0):5)", 1, 6);
    }

    private static void namesOfFunctions() {
        Doc.says("A NAME is one of a FUNCTION when a line has told one of it, and from the { on of the line that does.")
            .fails("f 1", 1, 2).does("f: {x+1}").shows("f 1", "2").shows("h: {[x;x*h x-1;1]}", "2").shows("h 5", "120")
            .fails("k: {l x}", 1, 6).fails("k: k 1", 1, 5).fails("k 1", 1, 2).does("k: {[x=0;0;k x-1]}").shows("k 3", "0")
            // A line that isn't read tells none.
            .fails("m: {x", 1, 5).fails("m 1", 1, 2).does("f: 3").fails("f 1", 1, 2).fails("f: {f}", 1, 5)
            .shows("f", "3").does("f: {[x>5;x;f x+1]}").shows("f 1", "6").shows("f: f 5", "6").shows("f+1", "7");
    }

    private static void ownNames() {
        Doc.says("x and y never are; lines that begin with x or y and : (or x, y, or a FUNCTION's NAME in the second form) "
                + "are error 1 at it.")
            .fails("x:5", 1, 0).fails("  y : 5", 1, 2).fails("x:{x}", 1, 0).fails("y:{x}", 1, 0).fails("x:", 1, 0)
            .fails("y: )", 1, 0).fails("x@(0):5", 1, 0).fails(" y@(0):5", 1, 1).fails("y@(0):)", 1, 0)
            .does("f: {x+1}").fails("f@(0):5", 1, 0).fails(" f @ (0) : 5", 1, 1).shows("f@(5)", "1").shows("f: 1 2", "1 2")
            .shows("f@(0):5", "5 2").fails("x 1", 1, 2).fails("f: {x 1}", 1, 6).fails("x", 2, 0).shows("f", "5 2");
    }

    private static void readWhenTold() {
        Doc.says("A function is read when it is told.")
            .does("k: {q}").fails("k 1", 2, 0).does("q: 9").shows("k 1", "9")
            // q was read as a value's NAME, so it stands for none when it is a FUNCTION's.
            .does("q: {x}").fails("k 1", 2, 0).does("q: 4").shows("k 1", "4")
            // g was read as a FUNCTION's NAME.
            .does("g: {x}", "h: {g x}", "g: 5").fails("1 + h 4", 2, 4).does("g: {x+1}").shows("h 4", "5")
            .fails("m: {y", 1, 5).fails("m: {1a}", 1, 5).does("n: {1+ 'a'}")
            .fails("n 1", 5, 0);
    }

    private static void numbersAndTexts() {
        Doc.says("Several NUMBERS are a NUMBER ROW, one is ONE; a TEXT of one byte is ONE SIGN, else a row.")
            .has("1 2", 4, 2).has("1 3000000000", 5, 2).has("0 1", 4, 2).has("7", 0, 1).has("3000000000", 0, 1)
            .has("'a'", 1, 1).has("'ab'", 3, 2);
    }

    private static void groups() {
        Doc.says("( ) with one expr is its value; with none or several the values, worked out from the LAST to the first, "
                + "GATHERED.")
            .shows("((5))", "5", 0).shows("(1 2)", "1 2", 4).shows("('a')", "'a'", 1).shows("()", "()", 7)
            .shows("(1;2;3)", "1 2 3", 4).shows("(1;'a';2)", "(1;'a';2)", 7)
            .fails("(nil;lin)", 2, 5).fails("(nil;lin;1)", 2, 5).fails("(1;nil;1+ 'a')", 5, 8)
            .fails("(nil;(1;lin);2)", 2, 8);
    }

    private static void choices() {
        Doc.says("[c;a;b]: c, then a if it is a NUMBER that isn't 0, b if it is 0 (else error 5).")
            .shows("[1;2;3]", "2").shows("[0;2;3]", "3").shows("[_1;2;3]", "2").shows("[3000000000;2;3]", "2")
            .shows("[0;nil;3]", "3").shows("[1;2;nil]", "2").shows("1+[0;2;3]+4", "8").shows("[1;[0;1;2];3]", "2")
            .fails("['a';2;3]", 5, 0).fails("1+[,1;2;3]", 5, 2).fails("[();2;3]", 5, 0).fails("[1 1;2;3]", 5, 0)
            .fails("[1 1#1;2;3]", 5, 0).fails("['0';2;3]", 5, 0).fails("[nil;2;3]", 2, 1).fails("[lin;nil;nix]", 2, 1)
            .fails("[1;nil;nix]", 2, 3).fails("[0;nil;nix]", 2, 7);
    }

    private static void indices() {
        Doc.says("noun@(i): i, then the noun, then the act @ of PART 4.")
            .shows("5 6 7@(1)", "6").shows("5 6 7 @ (2 0)", "7 5").shows("(1;2 3)@(1)@(0)", "2").shows("5 6@((1;0))", "6 5")
            .fails("nil@(lin)", 2, 5).fails("nil@(0)", 2, 0).fails("nil@(0)@(lin)", 2, 9).fails("nil@(nix)@(lin)", 2, 11)
            .fails("nil@(nix)@(0)", 2, 5)
            .fails("5 6@(2)", 7, 3).fails("5 6@(())", 3, 3).fails("1+5 6@(nil)", 2, 7).fails("(5 6;1)@(0)@(2)", 7, 11)
            .fails("5@(0)", 3, 1).fails("5 6@('a')", 5, 3);
    }

    private static void fromTheRight() {
        Doc.says("An expr is worked out from the right: in 'noun does expr' first the expr, then the noun, then the act.")
            .shows("2*3+4", "14").shows("10-5-2", "7").shows("-1-2", "1")
            .fails("nil+lin", 2, 4).fails("nil + 1 + 'a'", 5, 8).fails("(1 2+1 2 3)+ 'a'+1", 5, 16)
            .fails("nil+'a'+1", 1, 6).fails("(1+ 'a')%nil%0", 2, 9).fails("(1+ 'a')%1", 5, 2).fails("nil%0", 2, 0);
    }

    private static void naming() {
        Check check = Doc.says("Of 'NAME: expr' the value is the NAME's from then on, of 'NAME: {expr}' the NAME is one of "
                + "that FUNCTION; it stands for nothing else any more.")
            .shows("a: 5", "5").shows("a+1", "6").shows("a: a+1", "6").shows("a", "6")
            .does("a: {x+1}").shows("a 5", "6").fails("a", 1, 1);
        Check.same("no value", check.calc.names(0), 0);
        Check.same("one function", check.calc.names(1), 1);
        check.shows("a: a 7", "8").shows("a", "8").fails("a 5", 1, 2);
        Check.same("one value", check.calc.names(0), 1);
        Check.same("no function", check.calc.names(1), 0);
        check.does("a: {x-1}", "a: {x-2}").shows("a 5", "3");
        Check.same("one function still", check.calc.names(1), 1);
    }

    private static void naming40() {
        Check check = Doc.says("40 NAMES may be known (values and functions): one more is error 8, at it, ahead of all that "
                + "the line does.");
        for (int i = 0; i < 40; i++) {
            String name = "n" + (char) ('a' + i % 26) + (char) ('a' + i / 26);
            check.does(i % 2 == 0 ? name + ":" + i : name + ":{x+" + i + "}");
        }
        Check.same("values", check.calc.names(0), 20);
        Check.same("functions", check.calc.names(1), 20);
        check.fails("new: 1", 8, 0).fails("  new: 1+nil", 8, 2).fails("new: {x}", 8, 0).takesThenFails("new: !120", 0, 8)
            .fails("new: 1+", 1, 7).fails("new: {x", 1, 7).fails("new@(0): 1", 2, 0);
        check.shows("naa: 41", "41").shows("nba: 42", "42").shows("naa: {x}", "42").does("nnb: {x}");
        Check.same("values then", check.calc.names(0), 20);
        Check.same("functions then", check.calc.names(1), 20);
        Check values = new Check();
        for (int i = 0; i < 40; i++) {
            values.does((char) ('a' + i % 20) + (i < 20 ? "p" : "q") + ":" + i);
        }
        values.fails("new: 1", 8, 0).fails("new: {x}", 8, 0).does("ap: 7", "bp: {x}").fails("new: 1", 8, 0);
        Check functions = new Check();
        for (int i = 0; i < 40; i++) {
            functions.does((char) ('a' + i % 20) + (i < 20 ? "p" : "q") + ":{x+" + i + "}");
        }
        functions.fails("new: 1", 8, 0).fails("new: {x}", 8, 0).does("ap: 7", "tq: 8").fails("new: {x}", 8, 0)
            .shows("(ap;bp 1;sq 1;tq)", "7 2 39 8");
    }

    private static void places() {
        Check check = Doc.says("An error ends the line: it is told with the PLACE (bytes ahead) of the token at which it "
                + "came: of an act, of an ADVERB, of what is GATHERED by an ADVERB the VERB, or the NAME of the function; of "
                + "( ) the (; of [ ] the [; of a NAME without a value the NAME; of AMENDED the @; within functions that of "
                + "the outermost call's NAME.")
            .does("f: {x+ 'a'}", "g: {1 + f x}", "h: {(x;nil)}", "k: {[x;1;2]}", "m: {(,'!25;x)}", "o: {,x}", "a: 5 6")
            .fails("1 +  'a'", 5, 2).fails(" -  'a'", 5, 1).fails("1 2 + ' 1", 1, 6).fails("7 - +/ !0", 4, 4)
            .fails("7 - f/ !0", 4, 4).fails("1 2 + 1 2-'1 2 3", 4, 9).fails("1 2 + 1 2 f'1 2 3", 4, 10)
            .fails("1+ ,'!25", 8, 3).fails("1+ o'!25", 8, 3).fails("1+ 0+\\!120", 8, 4)
            .fails("1+ (1" + ";'a';2".repeat(12) + ")", 8, 3).fails("1+[(); 2; 3]", 5, 2).fails("1+ nil", 2, 3)
            .fails(" a @ (2): 1", 7, 3).fails(" a @ (nil): 1", 2, 6).fails("a@(1 2@(2)): 1", 7, 6).fails("  nil @ (0): 1", 2, 2);
        check.fails("f 1", 5, 0).fails("2*g 1", 5, 2).fails("2 * g' 1 2", 5, 4).fails("  h 1", 2, 2).fails("1+k ()", 5, 2)
            .fails("1+m 1", 8, 2).fails("(f 1)+nil", 2, 6).fails("(f 1)+2", 5, 1).fails("g f 1", 5, 2)
            // A call that has ended is none any more.
            .fails("(o 1)+ 'a'", 5, 5).fails("1 2 3+o 1 2", 4, 5).fails("a@(o 5): 1", 7, 1);
    }

    private static void errorsKeep() {
        Check check = Doc.says("What the names have stays as it is.")
            .does("a: 5 6", "f: {x+1}").fails("a: 1+nil", 2, 5).shows("a", "5 6").fails("b: nil", 2, 3).fails("b", 2, 0)
            .fails("a@(2): 1", 7, 1).shows("a", "5 6").fails("f: nil", 2, 3).shows("f 1", "2").fails("a: {x", 1, 5)
            .shows("a", "5 6").fails("f: {", 1, 4).shows("f 1", "2");
        Check.same("values", check.calc.names(0), 1);
        Check.same("functions", check.calc.names(1), 1);
        manyErrors();
        check = Doc.says("Otherwise its value is the RESULT (of a function told the RESULT stays).")
            .shows("7", "7").shows("a: 8", "8").does("a: 8 9").shows("a@(0): 1", "1 9").shows("f: {x}", "1 9");
        Check.same("it took nothing", check.calc.told(2), 0);
        check.fails("1+", 1, 2).fails("nil", 2, 0).fails("b: 1+ 'a'", 5, 4);
        Check.same("an error leaves the RESULT", check.printed(), "1 9");
    }

    /** Lines that come to an error with all but one of 120 values made leave nothing of them behind. */
    private static void manyErrors() {
        Check check = new Check().does("m: 854775807+9223372036*1000000000", "r: (118#1),m");
        for (int i = 0; i < 100; i++) {
            check.fails("0+\\r", 6, 1);
        }
        check.shows("+/0+\\!5", "20").shows("(1;(2;'a'))", "(1;(2;'a'))");
    }

    private static void errors() {
        Doc.says("ERRORS: 1 the line; 2 a NAME that stands for no value, or for no function any more (x, y outside of "
                + "functions, y in a call with one value, too);")
            .fails("1+", 1, 2).fails("nil", 2, 0).fails("x", 2, 0).fails("1+y", 2, 2).does("f: {y}", "g: {f x}", "h: {x f 1}")
            .fails("f 1", 2, 0).shows("1 f 2", "2").fails("2 g 1", 2, 2).shows("h 5", "1").fails("f'1 2", 2, 0)
            .shows("f/1 2", "2").does("f: 5").fails("g 1", 2, 0).fails("x", 2, 0)
            // A call that an error has ended leaves no x and y behind.
            .does("k: {x+y+ 'a'}").fails("1 k 2", 5, 2).fails("y", 2, 0).fails("x", 2, 0)
            // The x of a call is the x of that call alone.
            .does("i: {x}", "j: {(i 9)+x}", "l: {(i 9)+y}").shows("j 1", "10").fails("l 1", 2, 0).shows("7 l 1", "10");
        Doc.says("3 a value of a sort that the act doesn't take; 4 unlike COUNTs, or no items; 5 a SIGN where a NUMBER is "
                + "wanted, or a NUMBER that may not be there;")
            .fails("!1 2", 3, 0).fails("1 2+1 2 3", 4, 3).fails("*!0", 4, 0).fails("- 'a'", 5, 0).fails("!_1", 5, 0);
        Doc.says("6 a number beyond 64 bits, or beyond 32 in a TABLE; 7 a place that isn't there; 8 too many;")
            .fails("4294967296*2147483648", 6, 10).shows("4294967296*_2147483648", "_9223372036854775808")
            .fails("1+1 1#2147483647", 6, 1).shows("1+1 1#2147483646", "[2147483647]").fails("5 6@2", 7, 3).fails("25#()", 4, 2)
            .fails("25#,()", 8, 2);
        Doc.says("9 functions more than 10 in one another; 10 WORK.")
            .does("f: {[x;1+f x-1;0]}").shows("f 9", "9").fails("f 10", 9, 0)
            .does("r: 120#1", "g: {-/r}", "h: {g'r}").fails("h'r", 10, 0);
    }

    private static void order() {
        Doc.says("An act asks 3 first (of l, then of w), then 5 of numbers that tell how many and of rows of SIGNS where none "
                + "may be, then 4, then the rest as it goes, items from 0 on, left ahead of right.")
            // 3 ahead of 5
            .fails("'ab' . ()", 3, 5).fails("() . 'ab'", 3, 3).fails("'a'@ 'b'", 3, 3).fails("0 0#()", 3, 3).fails("1 2$1", 3, 3)
            .fails("'ab'#1", 3, 4)
            // 5 ahead of 4
            .fails("121#()", 5, 3).fails("'a'#()", 5, 3).fails("0 2#!0", 5, 3).fails("2 2#" + NO_ITEM, 5, 3)
            .fails("1 2 3 . 'ab'", 5, 6).fails("'ab' . 1 2 3", 5, 5).fails("0#2 2#1", 5, 1).fails("5 6@ 'abc'", 5, 3)
            // 4 ahead of the rest
            .fails("1 2 3+ 'ab'", 4, 5).fails("25#()", 4, 2).fails("1 2%0 0 0", 4, 3)
            // the rest as it goes
            .fails("&121 _1", 8, 0).fails("&_1 121", 5, 0).does("m: 854775807+9223372036*1000000000")
            .fails("(m;1)%(1;0)", 5, 5).fails("(m,1)*2 'a'", 1, 8).fails("(m;'a')+1", 6, 7).fails("('a';m)+1", 5, 7)
            .fails("(m;1)+(1;'a')", 6, 5).fails("(1;m)+('a';1)", 5, 5);
    }
}
