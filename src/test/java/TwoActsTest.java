/** PART 4, but for ADVERBS and FUNCTIONS: the acts with two values. */
public final class TwoActsTest {
    /** m is the greatest number, n the least one. */
    private static final String[] EDGES = {"m: 854775807+9223372036*1000000000", "n: (0-m)-1"};

    public static void main(String[] args) {
        all();
        Check.end();
    }

    static void all() {
        pairedNests();
        pairedOthers();
        pairedUnlike();
        pairedItems();
        sums();
        edgesOf64Bits();
        quotient();
        rest();
        lesserAndGreater();
        comparing();
        same();
        joined();
        joinedTooMany();
        taken();
        takenAgain();
        takenSorts();
        tablesTaken();
        tablesTakenWrong();
        dropped();
        found();
        foundInOthers();
        at();
        atSorts();
        fit();
        without();
        inner();
        innerTables();
        innerBeyond();
    }

    private static void pairedNests() {
        Doc.says("PART 4. ACTS WITH TWO, l AND w. PAIRED: a NEST with a NEST value by value, with another value each of its "
                + "values with that: a NEST;")
            .shows("(1;2 3)+(10;20 30)", "(11;22 33)", 7).shows("(1;2 3)+(10;20)", "(11 21;12 23)", 7)
            .shows("1+(1;2 3)", "(2;3 4)", 7).shows("(1;2 3)+1", "(2;3 4)", 7).shows("(1;2 3)+1 2", "(2 3;3 5)", 7)
            .fails("(1;2)-(2;'a')", 5, 5).shows("(1;(2;3 4))*(2;(3;4 5))", "(2;(6;12 20))", 7)
            .shows("(1;2 2#1)+2 2#1 2 3 4", "([2 3;4 5];[2 3;4 5])", 7).shows("()+5", "()", 7).shows("()+()", "()", 7)
            .shows("5+()", "()", 7).shows("()+ 'a'", "()", 7).shows("(1#(5;'a'))+1", "(6)", 7);
    }

    private static void pairedOthers() {
        Doc.says("else ONE with ONE: ONE; ONE with each item of a ROW, a ROW with a ROW item by item: a NUMBER ROW (told: BITS); "
                + "ONE with each number of a TABLE, a TABLE with a TABLE number by number: a TABLE;")
            .shows("2+3", "5", 0).shows("2+1 2 3", "3 4 5", 4).shows("1 2 3-1", "0 1 2", 4).shows("1 2*3 4", "3 8", 4)
            .shows("1 2+3000000000", "3000000001 3000000002", 5).shows("3000000000 1-3000000000 1", "0 0", 4)
            .shows("(1 1=1 0)+1 1", "2 1", 4).shows("(1 1=1 0)&1 1=1 1", "1 0", 4).shows("(1 1=1 0)=1 1=1 1", "10b", 2)
            .shows("10-2 2#1 2 3 4", "[9 8;7 6]", 6).shows("(2 2#1 2 3 4)-1", "[0 1;2 3]", 6)
            .shows("(2 2#1 2 3 4)*2 2#2", "[2 4;6 8]", 6).shows("(2 2#1 2)=2", "[0 1;0 1]", 6).shows("1+,5", ",6", 4)
            .shows("(!0)+5", "!0", 4).shows("(!0)+!0", "!0", 4).shows("(!0)=5", "b", 2);
    }

    private static void pairedUnlike() {
        Doc.says("unlike COUNTs, LINES of unlike length: 4; a TABLE with a ROW: 3.")
            .fails("1 2+1 2 3", 4, 3).fails("1 2+!0", 4, 3).fails("(,1)+1 2", 4, 4).fails("1 2=1 2 3", 4, 3)
            .fails("(1;'a')+(1;2;'b')", 4, 7).fails("()+(1;'a')", 4, 2)
            .fails("(2 2#1)+2 3#1", 4, 7).fails("(2 2#1)+3 2#1", 4, 7).fails("(1 4#1)+2 2#1", 4, 7)
            .fails("(2 2#1)+1 2", 3, 7).fails("1 2+2 2#1", 3, 3).fails("(!0)+2 2#1", 3, 4).fails("(2 2#1)=,1", 3, 7)
            .fails("(1 2#1)=1 2", 3, 7).fails("(2 2#1)=0# 'a'", 3, 7).fails("(2 2#1)< 'ab'", 3, 7);
    }

    private static void pairedItems() {
        Doc.says("(What the items ask, 5 and 6, comes behind 3 and 4, item by item: SIGNS without items meet no error 5; of a "
                + "NEST each value is gone through wholly ahead of the next one.)")
            .fails("1 2+ 'abc'", 4, 3).fails("(2 2#1)+ 'ab'", 3, 7).fails("'ab'+2 2#1", 3, 4).fails("1 2 3%0 0", 4, 5)
            .shows("5+0# 'a'", "!0", 4).shows("(0# 'a')+!0", "!0", 4).shows("'a'+!0", "!0", 4).shows("(!0)=0# 'a'", "b", 2)
            .shows("'a'<!0", "b", 2).shows("(0# 'a')%0# 'b'", "!0", 4)
            .does("m: 854775807+9223372036*1000000000")
            .fails("(1,m)%0 1", 5, 5).fails("(m,1)*2 1", 6, 5).fails("(m;'a')*2", 6, 7).fails("('a';m)*2", 5, 7)
            .fails("('a';1 2)+(1;1 2 3)", 5, 9).fails("(1 2;'a')+(1 2 3;1)", 4, 9).fails("(1 2;2 2#1)+(1 'a';1)", 1, 15)
            .fails("((1;'a');1 2)+1 2 3", 5, 13).fails("((1;2 2#1);'a')+1 2", 3, 15)
            .fails("(2 2#_2147483648 1)%2 2#_1 0", 6, 19).fails("(2 2#1 _2147483648)%2 2#0 _1", 5, 19);
    }

    private static void sums() {
        Doc.says("+ - * SUM, DIFFERENCE, PRODUCT, PAIRED (SIGNS 5; beyond 64 bits 6).")
            .shows("5+_3", "2").shows("_5+_3", "_8").shows("_5-3", "_8").shows("5-_3", "8").shows("_3*4", "_12")
            .shows("_3*_4", "12")
            .fails("1+ 'a'", 5, 1).fails("'a'+1", 5, 3).fails("'a'- 'a'", 5, 3).fails("'ab'* 'ab'", 5, 4).fails("1 2- 'ab'", 5, 3)
            .fails("(2 2#1)+ 'a'", 5, 7).fails("(1;'a')+1", 5, 7).fails("0* 'a'", 5, 1);
    }

    private static void edgesOf64Bits() {
        Check.of("a SUM, DIFFERENCE, PRODUCT beyond 64 bits is 6, in a TABLE beyond 32");
        new Check().does(EDGES)
            .fails("m+1", 6, 1).fails("1+m", 6, 1).shows("m+n", "_1").shows("n+m", "_1").shows("n+0", "_9223372036854775808")
            .shows("0+n", "_9223372036854775808").shows("(n+1)+_1", "_9223372036854775808").shows("m-0", "9223372036854775807")
            .fails("n-1", 6, 1).fails("n+_1", 6, 1).fails("_1+n", 6, 2).fails("m-_1", 6, 1).fails("0-n", 6, 1)
            .shows("_1-n", "9223372036854775807").fails("1-n", 6, 1).fails("_2-m", 6, 2).shows("_1-m", "_9223372036854775808");
        new Check().does(EDGES)
            .fails("n*_1", 6, 1).fails("_1*n", 6, 2).shows("n*1", "_9223372036854775808").shows("0*n", "0").shows("n*0", "0")
            .shows("m*_1", "_9223372036854775807").fails("2*m", 6, 1).fails("n*n", 6, 1).fails("m*m", 6, 1).fails("n*2", 6, 1)
            .fails("4294967296*2147483648", 6, 10).shows("4294967296*_2147483648", "_9223372036854775808")
            .shows("3037000499*3037000499", "9223372030926249001").fails("3037000500*3037000500", 6, 10)
            .fails("1 2+1,m", 6, 3).shows("(m,n)&0", "0 _9223372036854775808", 5);
        new Check()
            .fails("(2 2#2147483647)+1", 6, 16).fails("1+2 2#2147483647", 6, 1).fails("(2 2#65536)*2 2#32768", 6, 11)
            .shows("(1 2#65536)*1 2#32767", "[2147418112 2147418112]").fails("(2 2#1)-2147483650", 6, 7)
            .shows("(1 1#1)-2147483649", "[_2147483648]").shows("(1 1#2147483647)+0", "[2147483647]");
    }

    private static void quotient() {
        Doc.says("% QUOTIENT of l by w, down to the whole one below (w 0: 5),")
            .shows("7%2", "3").shows("_7%2", "_4").shows("7%_2", "_4").shows("_7%_2", "3").shows("6%_2", "_3").shows("_6%2", "_3")
            .shows("0%5", "0").shows("0%_5", "0").shows("1%2", "0").shows("1%_2", "_1").shows("_1%2", "_1").shows("_1%1", "_1")
            .shows("10%1 2 5", "10 5 2", 4).shows("(2 2#7)%2", "[3 3;3 3]", 6).fails("1%0", 5, 1).fails("0%0", 5, 1)
            .fails("1 2%1 0", 5, 3).fails("'a'%0", 5, 3).fails("'a'%1", 5, 3).fails("1% 'a'", 5, 1).does(EDGES)
            .fails("n%_1", 6, 1).shows("n%1", "_9223372036854775808").shows("m%_1", "_9223372036854775807").shows("n%m", "_2")
            .shows("m%n", "_1").shows("n%n", "1").shows("1%n", "_1").fails("(1 1#_2147483648)%_1", 6, 17);
    }

    private static void rest() {
        Doc.says("! REST: of w by l, that is w less l times (w % l) (l 0: 5), PAIRED (likewise).")
            .shows("2!7", "1").shows("2!_7", "1").shows("_2!7", "_1").shows("_2!_7", "_1").shows("3!6", "0").shows("_3!6", "0")
            .shows("2!1", "1").shows("_2!1", "_1").shows("2!_1", "1").shows("1!5", "0").shows("5!0", "0").shows("_5!0", "0")
            .shows("3!!7", "0 1 2 0 1 2 0", 4).shows("2 3!7 7", "1 1", 4).shows("2!2 2#!4", "[0 1;0 1]", 6)
            .shows("(2;3 4)!7", "(1;1 3)", 7)
            .fails("0!1", 5, 1).fails("0!0", 5, 1).fails("1 0!1", 5, 3).fails("0! 'a'", 5, 1).fails("'a'!1", 5, 3)
            .fails("1! 'a'", 5, 1)
            .does(EDGES).shows("_1!n", "0").shows("1!n", "0").shows("m!n", "9223372036854775806").shows("n!m", "_1")
            .shows("n!n", "0");
    }

    private static void lesserAndGreater() {
        Doc.says("& LESSER, | GREATER, PAIRED (SIGNS 5).")
            .shows("3&5", "3").shows("5&3", "3").shows("3|5", "5").shows("5|3", "5").shows("1 5&3 2", "1 2", 4)
            .shows("1 5|3 2", "3 5", 4).shows("_3000000000|1", "1", 0).shows("0|1 2#5 _5", "[5 0]", 6)
            .shows("(1;5 _5)&0", "(0;0 _5)", 7)
            .fails("'a'&1", 5, 3).fails("1| 'a'", 5, 1).fails("'a'& 'a'", 5, 3).fails("'ab'| 'ab'", 5, 4)
            .fails("(1 1#1)|2147483648", 6, 7);
    }

    private static void comparing() {
        Doc.says("< > = LESS, GREATER, ALIKE, PAIRED: 1 or 0 (of ROWs BITS): SIGNS with SIGNS by their bytes, NUMBERS with "
                + "NUMBERS;")
            .shows("1<2", "1", 0).shows("2<2", "0", 0).shows("3<2", "0", 0).shows("3>2", "1", 0).shows("2>2", "0", 0)
            .shows("2=2", "1", 0).shows("2=3", "0", 0).shows("1 2 3<2", "100b", 2).shows("1 2 3>3 2 1", "001b", 2)
            .shows("2=1 2 3", "010b", 2).shows("'b'> 'abc'", "100b", 2).shows("'abc'= 'abd'", "110b", 2).shows("'a'< 'b'", "1", 0)
            .shows("'b'< 'b'", "0", 0).shows("(2 2#1 2)< 2 2#2", "[1 0;1 0]", 6).shows("(1;'ab')=(1;'ac')", "(1;10b)", 7)
            .does(EDGES).shows("m=m", "1").shows("n<m", "1").shows("m>n", "1").shows("(m,n)<0", "01b", 2);
        Doc.says("of a SIGN and a NUMBER = is 0, < and > are 5.")
            .shows("97= 'a'", "0", 0).shows("'a'=97", "0", 0).shows("97 98= 'ab'", "00b", 2).shows("'a'=2 2#97", "[0 0;0 0]", 6)
            .shows("(1;'ab')=('a';'ab')", "(0;11b)", 7).fails("1< 'a'", 5, 1).fails("'a'>1 2", 5, 3).fails("1 2> 'ab'", 5, 3)
            .fails("'a'<2 2#1", 5, 3).fails("(1;'a')<1", 5, 7);
    }

    private static void same() {
        Doc.says("~ whether they are SAME: ONE.")
            .shows("1~1", "1", 0).shows("1~2", "0", 0).shows("1 2~1 2", "1", 0).shows("1 2~1 2 3", "0", 0)
            .shows("'ab'~()", "0", 0)
            .shows("(2 2#1)~2 2#1", "1", 0).shows("(1;'a')~(1;'a')", "1", 0);
    }

    private static void joined() {
        Doc.says(", JOINED: the items of l, then those of w: of numbers and rows of numbers: BITS, if both are BITS, else their "
                + "NUMBER ROW; of SIGNS and rows of SIGNS a row of SIGNS")
            .shows("1,2", "1 2", 4).shows("1 2,3", "1 2 3", 4).shows("3,1 2", "3 1 2", 4).shows("(1=,1),0=,1", "10b", 2)
            .shows("(1=,1),1", "1 1", 4).shows("1,1=,1", "1 1", 4).shows("(1=!0),!0", "!0", 4)
            .shows("1,3000000000", "1 3000000000", 5)
            .shows("(1#1 3000000000),2", "1 2", 4).shows("'a', 'b'", "'ab'", 3).shows("'ab', 'c'", "'abc'", 3)
            .shows("'c', 'ab'", "'cab'", 3).shows("(0# 'a'), 'c'", ",'c'", 3).shows("(!0),!0", "!0", 4);
        Doc.says("of TABLES with LINES of one length a TABLE")
            .shows("(1 2#1 2),1 2#3 4", "[1 2;3 4]", 6).shows("(2 1#1 2),1 1#3", "[1;2;3]", 6);
        Doc.says("else a NEST of the items")
            .shows("1, 'a'", "(1;'a')", 7).shows("1 2, 'ab'", "(1;2;'a';'b')", 7).shows("(),1", "(1)", 7).shows("(),()", "()", 7)
            .shows("(),!0", "()", 7).shows("(!0),0# 'a'", "()", 7).shows("(1 2#1 2),1 1#3", "(1 2;,3)", 7)
            .shows("(1 2#1 2),3 4", "(1 2;3;4)", 7).shows("5,1 2#1 2", "(5;1 2)", 7).shows("(1;'a'),(2;'b')", "(1;'a';2;'b')", 7)
            .shows("1,(1;'a')", "(1;1;'a')", 7).shows("(,1 2),,3 4", "(1 2;3 4)", 7).shows("1 2,()", "(1;2)", 7);
    }

    private static void joinedTooMany() {
        Doc.says("a row of SIGNS (more than 120: 8);")
            .has("(60#1),60#1", 4, 120).fails("(60#1),61#1", 8, 6).has("(119#1),1", 4, 120).fails("(120#1),1", 8, 7)
            .has("(60# 'a'),60# 'a'", 3, 120).fails("(60# 'a'),61# 'a'", 8, 9).has("(1=!60),1=!60", 2, 120)
            .fails("(1=!60),1=!61", 8, 7)
            .has("(120#1),!0", 4, 120);
        Doc.says("of TABLES with LINES of one length a TABLE (more than 12: 8);")
            .has("(6 2#1),6 2#1", 6, 12).fails("(6 2#1),7 2#1", 8, 7).has("(11 1#1),1 1#1", 6, 12).fails("(12 1#1),1 1#1", 8, 8)
            .has("(6 2#1),7 3#1", 7, 13);
        Doc.says("else a NEST of the items (more than 24: 8).")
            .has("(12#2),12# 'a'", 7, 24).fails("(12#2),13# 'a'", 8, 6).fails("(24#(1;'a')),1", 8, 12)
            .has("(23#(1;'a')),1", 7, 24)
            .fails("(25#1),()", 8, 6).has("(24#1),()", 7, 24).fails("(12 2#1),13#1", 8, 8);
    }

    private static void taken() {
        Doc.says("# TAKEN: l ONE (else 3, but for the next sentence), a number n of -120 to 120 (else 5): the first n items of w, "
                + "below 0 the last -n,")
            .shows("2#5 6 7", "5 6", 4).shows("_2#5 6 7", "6 7", 4).shows("3#5 6 7", "5 6 7", 4).shows("_3#5 6 7", "5 6 7", 4)
            .shows("0#5 6 7", "!0", 4).has("120#1", 4, 120).has("_120#1", 4, 120)
            .fails("121#1", 5, 3).fails("_121#1", 5, 4).fails("121#()", 5, 3).fails("4294967297#1 2", 5, 10).fails("'a'#1", 5, 3)
            .fails("'a'#()", 5, 3).fails("(,1)#1", 3, 4).fails("1 2 3#1", 3, 5).fails("()#1", 3, 2).fails("'ab'#1", 3, 4)
            .fails("(2 2#1)#1", 3, 7).fails("(!0)#1", 3, 4).fails("(1;'a')#1", 3, 7).fails("(0# 'a')#1", 3, 8);
    }

    private static void takenAgain() {
        Doc.says("again and again from the beginning, or from the end, if there are fewer (none, and n not 0: 4):")
            .shows("5#1 2 3", "1 2 3 1 2", 4).shows("_5#1 2 3", "2 3 1 2 3", 4).shows("7#1 2 3", "1 2 3 1 2 3 1", 4)
            .shows("_7#1 2 3", "3 1 2 3 1 2 3", 4).shows("3#7", "7 7 7", 4).shows("_3#7", "7 7 7", 4)
            .shows("3#,7", "7 7 7", 4).shows("_3#,7", "7 7 7", 4).shows("2#,1 2", "(1 2;1 2)", 7)
            .shows("_3#2 2#1 2 3 4", "[3 4;1 2;3 4]", 6).shows("_3#(1;'a')", "('a';1;'a')", 7)
            .fails("1#()", 4, 1).fails("_1#!0", 4, 2).fails("3#0# 'a'", 4, 1).fails("25#()", 4, 2).shows("0#()", "()", 7)
            .shows("0#!0", "!0", 4);
    }

    private static void takenSorts() {
        Doc.says("a ROW of w's KIND (of ONE as of a ROW of it), a NEST (more than 24: 8), a TABLE (n 0: 5; more than 12: 8).")
            .shows("3#1 2=1 3", "101b", 2).shows("0#1=1 2", "b", 2).shows("3# 'ab'", "'aba'", 3).shows("1#1 3000000000", ",1", 5)
            .shows("0#7", "!0", 4).shows("0#3000000000", "!0", 5).shows("1#3000000000", ",3000000000", 5)
            .shows("2# 'a'", "'aa'", 3)
            .shows("0# 'a'", "''", 3).shows("1# 'a'", ",'a'", 3).shows("2#2147483647", "2147483647 2147483647", 4)
            .shows("2#(1;'a';2)", "(1;'a')", 7).shows("1#(1;'a';2)", "(1)", 7).shows("0#(1;'a')", "()", 7)
            .has("24#(1;'a')", 7, 24).fails("25#(1;'a')", 8, 2).has("_24#(1;'a')", 7, 24).fails("_25#(1;'a')", 8, 3)
            .shows("1#2 2#1 2 3 4", "[1 2]", 6).fails("0#2 2#1", 5, 1).has("12#2 2#1", 6, 12).fails("13#2 2#1", 8, 2)
            .has("_12#2 2#1", 6, 12).fails("_13#2 2#1", 8, 3);
    }

    private static void tablesTaken() {
        Doc.says("l a ROW of two numbers r, c (each 1 to 12, else 5): the TABLE of r LINES of c of the numbers of w (ONE, a ROW, a "
                + "TABLE line by line), again and again")
            .shows("2 3#1 2 3 4", "[1 2 3;4 1 2]", 6).shows("1 2#5 6 7", "[5 6]", 6).shows("2 2#7", "[7 7;7 7]", 6)
            .shows("1 1#2 2#5 6 7 8", "[5]", 6).shows("3 2#2 2#5 6 7 8", "[5 6;7 8;5 6]", 6)
            .shows("1 5#2 2#5 6 7 8", "[5 6 7 8 5]", 6)
            .shows("2 2#1 2=1 3", "[1 0;1 0]", 6).shows("(1 1=1 1)#5", "[5]", 6).shows("(2#2 3 3000000000)#7", "[7 7 7;7 7 7]", 6)
            .has("12 12#1", 6, 12).has("12 1#1", 6, 12).has("1 12#1", 6, 1)
            .fails("13 1#1", 5, 4).fails("1 13#1", 5, 4).fails("0 1#1", 5, 3).fails("1 0#1", 5, 3).fails("_1 1#1", 5, 4)
            .fails("1 _1#1", 5, 4).fails("(1 0=1 1)#5", 5, 9).fails("4294967297 1#1", 5, 12).fails("1 4294967297#1", 5, 12);
    }

    private static void tablesTakenWrong() {
        Doc.says("(a NEST 3; SIGNS 5; none 4; beyond 32 bits 6).")
            .fails("2 2#()", 3, 3).fails("2 2#(1;'a')", 3, 3).fails("0 0#()", 3, 3).fails("2 2# 'a'", 5, 3)
            .fails("2 2# 'ab'", 5, 3)
            .fails("2 2#0# 'a'", 5, 3).fails("2 2#!0", 4, 3).fails("2 2#0#3000000000", 4, 3).fails("0 2#!0", 5, 3)
            .fails("2 2#1 2147483648", 6, 3).fails("2 2#_2147483649", 6, 3).shows("1 1#1 3000000000", "[1]", 6)
            .shows("1 2#2147483647 _2147483648", "[2147483647 _2147483648]", 6).fails("1 3#1 2 3000000000", 6, 3);
    }

    private static void dropped() {
        Doc.says("_ DROPPED: l ONE (else 3), a number n (else 5): w without its first n items, below 0 without its last -n "
                + "(without all, if there are fewer): as TAKEN (of a TABLE no LINE left: 4).")
            .shows("1_ 5 6 7", "6 7", 4).shows("2 _ 5 6 7", ",7", 4).shows("_1 _ 5 6 7", "5 6", 4).shows("0 _ 5 6 7", "5 6 7", 4)
            .shows("3 _ 5 6 7", "!0", 4).shows("4 _ 5 6 7", "!0", 4).shows("_3 _ 5 6 7", "!0", 4).shows("_4 _ 5 6 7", "!0", 4)
            .shows("999999999999999999 _ 5 6 7", "!0", 4).shows("_999999999999999999 _ 5 6 7", "!0", 4)
            .shows("4294967296 _ 5 6", "!0", 4).shows("_4294967296 _ 5 6", "!0", 4)
            .shows("0 _ 5", ",5", 4).shows("1 _ 5", "!0", 4).shows("0 _ 3000000000", ",3000000000", 5)
            .shows("_1 _ 3000000000", "!0", 5)
            .shows("0 _ 'a'", ",'a'", 3).shows("1 _ 'a'", "''", 3).shows("1 _ 'abc'", "'bc'", 3).shows("1 _ 1 2=1 2", "1b", 2)
            .shows("2 _ 3000000000 1 2", ",2", 5).shows("1 _ (1;'a';2)", "('a';2)", 7).shows("9 _ ()", "()", 7)
            .shows("2 _ (1;'a')", "()", 7);
        Check.of("DROPPED: of a TABLE no LINE left: 4; l");
        new Check()
            .shows("1 _ 2 2#1 2 3 4", "[3 4]", 6).shows("_1 _ 2 2#1 2 3 4", "[1 2]", 6).shows("0 _ 2 2#1 2 3 4", "[1 2;3 4]", 6)
            .fails("2 _ 2 2#1 2 3 4", 4, 2).fails("_2 _ 2 2#1 2 3 4", 4, 3).fails("_9 _ 2 2#1 2 3 4", 4, 3)
            .fails("'a' _ 1 2", 5, 4).fails("(,1) _ 1 2", 3, 5).fails("1 2 _ 1 2", 3, 4).fails("() _ 1", 3, 3)
            .fails("'ab' _ 1", 3, 5)
            .fails("(1 1#1) _ 1", 3, 8).does(EDGES).shows("n _ 1 2", "!0", 4).shows("m _ 1 2", "!0", 4);
    }

    private static void found() {
        Doc.says("? FOUND: l ONE: 3. The place of the first of l's items that is SAME as w (l's COUNT: none): ONE, if w is ONE or l "
                + "no ROW;")
            .shows("5 6 7?6", "1", 0).shows("5 6 7?9", "3", 0).shows("5 6 5?5", "0", 0).shows("5 6 7? 'a'", "3", 0)
            .shows("'abc'? 'b'", "1", 0).shows("'abc'?98", "3", 0).shows("(!0)?5", "0", 0).shows("(1 2=1 3)?0", "1", 0)
            .shows("1 3000000000?3000000000", "1", 0).fails("5?5", 3, 1).fails("'a'?5", 3, 3).fails("5?()", 3, 1)
            .fails("5?5 6", 3, 1);
        Doc.says("l a ROW, w a ROW: INTS, of each of w's items; l a ROW, w a TABLE or NEST: 3.")
            .shows("5 6 7?7 5 1", "2 0 3", 4).shows("'abc'? 'cx'", "2 3", 4).shows("'abc'?99 98", "3 3", 4)
            .shows("5 6?!0", "!0", 4)
            .shows("5 6? 'ab'", "2 2", 4).shows("5 6?,6", ",1", 4).shows("5 6?0# 'a'", "!0", 4).shows("(!0)?1 2", "0 0", 4)
            .shows("0 1 3000000000?1 2=1 3", "1 0", 4)
            .fails("1 2?()", 3, 3).fails("1 2?(1;'a')", 3, 3).fails("1 2?2 2#1", 3, 3).fails("'ab'?,1 2", 3, 4);
    }

    private static void foundInOthers() {
        Check.of("FOUND: ONE, if l is no ROW");
        new Check()
            .shows("(1;2 3;'a')?2 3", "1", 0).shows("(1;2 3;'a')?2", "3", 0).shows("(1;2 3;'a')? 'a'", "2", 0)
            .shows("(1;(2;'a'))?(2;'a')", "1", 0).shows("(0 1;'a')?1 2=2 2", "0", 0).shows("()?5", "0", 0).shows("()?()", "0", 0)
            .shows("(1;())?()", "1", 0).shows("(1;2 2#5)?2 2#5", "1", 0)
            .shows("(2 2#1 2 3 4)?3 4", "1", 0).shows("(2 2#1 2 3 4)?3", "2", 0).shows("(2 2#1 2 3 4)?2 2#1", "2", 0)
            .shows("(2 2#0 1)?1 2=2 2", "0", 0).shows("(1 2#97 98)? 'ab'", "1", 0).shows("(2 2#1 2 3 4)?1 2 3", "2", 0)
            .shows("(2 2#1 2 3 4)?()", "2", 0);
    }

    private static void at() {
        Doc.says("w ONE: that item; a ROW: those items, a ROW of l's KIND, a NEST (more than 24: 8), a TABLE (none: 4; more than "
                + "12: 8).")
            .shows("5 6 7@2", "7", 0).shows("5 6 7@0 0 2", "5 5 7", 4).shows("'abc'@1", "'b'", 1).shows("'abc'@2 0", "'ca'", 3)
            .shows("'abc'@!0", "''", 3).shows("5 6@1 2=1 3", "6 5", 4).shows("(1 0=1 1)@0 0", "11b", 2)
            .shows("(1 0=1 1)@0", "1", 0)
            .shows("5 3000000000@,0", ",5", 5).shows("5 3000000000@0", "5", 0).has("(,5)@120#0", 4, 120)
            .shows("(1;'a';2 3)@2", "2 3", 4).shows("(1;'a';2 3)@0 2", "(1;2 3)", 7).shows("(1;'a';2 3)@!0", "()", 7)
            .has("(1;'a')@24#0", 7, 24).fails("(1;'a')@25#0", 8, 7).shows("(2 2#1 2 3 4)@1", "3 4", 4)
            .shows("(2 2#1 2 3 4)@1 1", "[3 4;3 4]", 6).shows("(2 2#1 2 3 4)@,1", "[3 4]", 6).fails("(2 2#1 2 3 4)@!0", 4, 13)
            .has("(2 2#1)@12#0", 6, 12).fails("(2 2#1)@13#0", 8, 7);
    }

    private static void atSorts() {
        Doc.says("@ AT: l ONE: 3; w a TABLE or NEST: 3, SIGNS: 5; a place that isn't there: 7.")
            .fails("5@0", 3, 1).fails("'a'@0", 3, 3).fails("5@ 'a'", 3, 1).fails("5@!0", 3, 1).fails("5 6@,()", 3, 3)
            .fails("5 6@2 2#0", 3, 3).fails("()@2 2#0", 3, 2).fails("5 6@ 'a'", 5, 3).fails("5 6@ 'ab'", 5, 3)
            .fails("5 6@0# 'ab'", 5, 3)
            .fails("5 6@2", 7, 3).fails("5 6@_1", 7, 3).fails("5 6@0 2", 7, 3).fails("5 6@2 0", 7, 3)
            .fails("5 6@4294967296", 7, 3)
            .fails("5 6@_4294967296", 7, 3).fails("(!0)@0", 7, 4).fails("()@0", 7, 2).fails("(1;'a')@2", 7, 7)
            .fails("(2 2#1)@2", 7, 7)
            .fails("(1;'a')@25#2", 7, 7).fails("(2 2#1)@13#2", 7, 7);
    }

    private static void fit() {
        Doc.says("$ FIT: l ONE (else 3), a number n of -120 to 120 (else 5), w SIGNS, or ONE SIGN (else 5): cut, or with blanks "
                + "behind, to n signs; below 0 to the last -n, or with blanks ahead.")
            .shows("5$ 'abc'", "'abc  '", 3).shows("3$ 'abc'", "'abc'", 3).shows("2$ 'abc'", "'ab'", 3)
            .shows("_5$ 'abc'", "'  abc'", 3)
            .shows("_3$ 'abc'", "'abc'", 3).shows("_2$ 'abc'", "'bc'", 3)
            .shows("1$ 'abc'", ",'a'", 3).shows("_1$ 'abc'", ",'c'", 3).shows("0$ 'abc'", "''", 3).shows("1$ 'a'", ",'a'", 3)
            .shows("_3$ 'a'", "'  a'", 3).shows("2$ 'a'", "'a '", 3).shows("2$0# 'a'", "'  '", 3).shows("_2$0# 'a'", "'  '", 3)
            .has("120$ 'a'", 3, 120).has("_120$ 'a'", 3, 120).fails("121$ 'a'", 5, 3).fails("_121$ 'a'", 5, 4)
            .fails("4294967296$ 'a'", 5, 10).fails("'a'$ 'a'", 5, 3).fails("(,1)$ 'a'", 3, 4).fails("1 2$1", 3, 3)
            .fails("()$ 'a'", 3, 2)
            .fails("1$1", 5, 1).fails("1$1 2", 5, 1).fails("1$()", 5, 1).fails("1$2 2#1", 5, 1).fails("1$!0", 5, 1);
    }

    private static void without() {
        Doc.says("^ WITHOUT: l ONE: 3; the items of l that aren't SAME as any of w's: a ROW of l's KIND, a NEST, a TABLE (none: 4).")
            .shows("1 2 3 2^2", "1 3", 4).shows("0 1^5", "0 1", 4).shows("0 1^!0", "0 1", 4).shows("1 2 3^3 1", ",2", 4).shows("1 2^1 2", "!0", 4).shows("1 2^ 'a'", "1 2", 4)
            .shows("97 98^ 'a'", "97 98", 4).shows("'hello'^ 'l'", "'heo'", 3).shows("'hello'^ 'eo'", "'hll'", 3)
            .shows("'ab'^97", "'ab'", 3).shows("(1 0=1 1)^0", "1b", 2).shows("1 3000000000^3000000000", ",1", 5)
            .shows("(!0)^5", "!0", 4)
            .shows("1 2^()", "1 2", 4).shows("1 2^(1;'a')", ",2", 4).shows("1 2^1 2#1 2", "1 2", 4)
            .shows("(1;'a';2 3)^ 'a'", "(1;2 3)", 7).shows("(1;'a';2 3)^,2 3", "(1;'a')", 7)
            .shows("(1;'a';2 3)^2 3", "(1;'a';2 3)", 7)
            .shows("(1;'a')^(1;'a')", "()", 7).shows("(1 2;3)^1 2#1 2", "(3)", 7).shows("()^1", "()", 7)
            .shows("(2 2#1 2 3 4)^,1 2", "[3 4]", 6).shows("(2 2#1 2 3 4)^1 2#3 4", "[1 2]", 6)
            .shows("(3 2#!6)^2 2#9 9 2 3", "[0 1;4 5]", 6).shows("(2 2#1 2 3 4)^1 2", "[1 2;3 4]", 6)
            .fails("(2 2#1 2)^,1 2", 4, 9).fails("(2 2#1)^2 2#1", 4, 7).fails("5^5", 3, 1).fails("'a'^5", 3, 3);
    }

    private static void inner() {
        Doc.says(". INNER: ROWs and TABLES (else 3; SIGNS 5): a ROW with a ROW of one COUNT: the sum of the products of their items, "
                + "ONE;")
            .shows("1 2 3 . 4 5 6", "32", 0).shows("(!0) . !0", "0", 0).shows("(1 1=1 0) . 5 6", "5", 0).shows("(,3).,4", "12", 0)
            .shows("3000000000 1 . 1 1", "3000000001", 0).shows("_1 2 . 3 4", "5", 0)
            .fails("1 . 1 2", 3, 2).fails("1 2 . 1", 3, 4).fails("1 2 . ()", 3, 4).fails("() . 1 2", 3, 3)
            .fails("'a' . 1 2", 3, 4)
            .fails("1 2 . 'a'", 3, 4).fails("'ab' . 1", 3, 5).fails("(2 2#1) . 1", 3, 8).fails("'ab' . 1 2", 5, 5)
            .fails("1 2 . 'ab'", 5, 4).fails("(0# 'a') . !0", 5, 9).fails("(2 2#1) . 'ab'", 5, 8).fails("'ab' . 'ab'", 5, 5);
    }

    private static void innerTables() {
        Doc.says("a TABLE with a ROW: that of each LINE with it, a ROW with a TABLE that of it with each column, a NUMBER ROW; a TABLE "
                + "with a TABLE that of each LINE of l with each column of w: a TABLE; as many on both sides (else 4);")
            .shows("(2 3#!6) . 1 2 3", "8 26", 4).shows("1 2 . 2 3#!6", "6 9 12", 4)
            .shows("(2 3#!6) . 3 2#!6", "[10 13;28 40]", 6)
            .shows("(2 1#1 2) . 1 3#3 4 5", "[3 4 5;6 8 10]", 6).shows("(1 2#1 2) . 2 1#3 4", "[11]", 6)
            .shows("(1 2#1 2) . 3 4", ",11", 4)
            .shows("1 2 . 2 1#3 4", ",11", 4).shows("(2 2#1) . 4294967296 1", "4294967297 4294967297", 5)
            .has("(12 12#1) . 12 12#1", 6, 12)
            .fails("1 2 . 1 2 3", 4, 4).fails("(2 3#1) . 1 2", 4, 8).fails("1 2 3 . 2 3#1", 4, 6).fails("(2 3#1) . 2 3#1", 4, 8)
            .fails("(!0) . ,1", 4, 5).fails("(2 3#1) . !0", 4, 8).fails("1 2 3 . 'ab'", 5, 6);
    }

    private static void innerBeyond() {
        Doc.says("each product, then each sum with what came ahead, from 0 on, within 64 bits (6).")
            .does(EDGES)
            .fails("4294967296 1 . 2147483648 1", 6, 13).shows("4294967296 1 . _2147483648 0", "_9223372036854775808")
            .fails("(m,1 _1) . 1 1 1", 6, 9).shows("(m,_1 1) . 1 1 1", "9223372036854775807", 0).fails("(n,_1 1) . 1 1 1", 6, 9)
            .shows("(n,1 _1) . 1 1 1", "_9223372036854775808", 0).fails("(0,m) . 0 2", 6, 6).fails("(1,m) . 1 1", 6, 6)
            .fails("(m,n) . 1 _1", 6, 6).shows("(m,n) . 1 1", "_1")
            // and of a TABLE within 32
            .fails("(2 2#65536) . 2 2#65536", 6, 12).fails("(1 2#2147483647 1) . 2 1#1", 6, 19)
            .shows("(1 2#2147483646 1) . 2 1#1", "[2147483647]", 6).shows("(1 2#2147483647 1) . 1 1", ",2147483648", 5);
    }
}
