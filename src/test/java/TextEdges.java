/** The edges of a text: its length, its tokens, how many of a sort, the faults and their places. */
final class TextEdges {
    private static final String[] OWN_WORDS =
        "person keeps shame bears knows sign fog draw or and not many first last people".split(" ");
    private static final String SIX = Parishes.apart(6, 0);

    private TextEdges() { }

    static void run() {
        length();
        words();
        numbers();
        signs();
        blanks();
        longest();
        lines();
        formulaGrammar();
        names();
        people();
        knowsLines();
        onceEach();
        units();
        nesting();
        places();
        faultOne();
        faultTwo();
        faultThree();
        faultFour();
        faultFive();
    }

    /** The text has no fault: the object that was told it. */
    static StinkhornParish good(String text, int people) {
        StinkhornParish x = new StinkhornParish();
        Checks.tape(x, text);
        Checks.due("[" + text + "]", x.parish(), people);
        Checks.due("[" + text + "] fault", x.fault(0), 0);
        Checks.due("[" + text + "] place", x.fault(1), -1);
        return x;
    }

    static void bad(String text, int fault, int place) {
        StinkhornParish x = new StinkhornParish();
        Checks.tape(x, text);
        Checks.due("[" + text + "]", x.parish(), -1);
        Checks.due("[" + text + "] fault", x.fault(0), fault);
        Checks.due("[" + text + "] place", x.fault(1), place);
    }

    private static String blanks(int many) {
        return " ".repeat(many);
    }

    private static void length() {
        Doc.terms("A PARISH is a text of at most 1,600 bytes (empty at first): parish = {line}.");
        good("", 0);
        good(blanks(1600), 0);
        good("person a;" + blanks(1582) + "person b;", 2);
        good(blanks(1591) + "person b;", 1);
        good(blanks(1590) + "person b;", 1);
        bad(blanks(1591) + "person b ", 2, 1600);
        bad(blanks(1592) + "person b", 2, 1600);
        bad(blanks(1599) + "!", 1, 1599);
        bad(blanks(1599) + ";", 2, 1599);
        bad(blanks(1596) + "5678", 2, 1596);
        bad(blanks(1592) + "abcdefgh", 2, 1592);
        bad("a".repeat(1600), 1, 0);
        bad("1".repeat(1600), 1, 0);
        bad("sign 1" + "+1".repeat(797), 2, 65);
    }

    private static void words() {
        Doc.terms("TOKENS: words (a .. z, 8 at most)");
        good("person a;person z;person azazazaz;person abcdefgz;knows azazazaz z;knows z abcdefgz;", 4);
        good("person abcdefg;", 1);
        bad("person abcdefghi;", 1, 7);
        bad("person abcdefgh;person abcdefghi;", 1, 23);
        bad("person a;person b;knows abcdefghi b;", 1, 24);
        bad("person a;person b;knows a abcdefghi;", 1, 26);
        bad("abcdefghi", 1, 0);
        bad("abcdefgh", 2, 0);
        bad("sign abcdefghi;", 1, 5);
        bad("sign abcdefgh;", 2, 5);
        bad("persons a;", 2, 0);
        bad("Person a;", 1, 0);
        bad("person A;", 1, 7);
        bad("person aZ;", 1, 8);
        bad("person `;", 1, 7);
        bad("person {;", 1, 7);
        bad("person a{;", 1, 8);
        bad("person a@;", 1, 8);
        bad("person a1;", 2, 8);
    }

    private static void numbers() {
        Doc.terms("N (1 to 4 digits)");
        for (String n : new String[] {"0", "9", "00", "99", "000", "099", "0000", "0100"}) good("fog " + n + ";", 0);
        for (String n : new String[] {"0", "9", "10", "99", "100", "999", "1000", "9999", "0009"}) {
            Checks.due("sign " + n, good("sign " + n + ";", 0).sign(0), Integer.parseInt(n));
        }
        bad("fog 00000;", 1, 4);
        bad("fog 00005;", 1, 4);
        bad("sign 10000;", 1, 5);
        bad("sign 1+99999;", 1, 7);
        bad("sign 4294967297;", 1, 5);
        bad("sign 99999999999999999999;", 1, 5);
        bad("draw 12345", 1, 5);
        bad("draw 1234", 4, 5);
        bad("sign :;", 1, 5);
        bad("sign 1:;", 1, 6);
    }

    /** Each byte there is, between two numbers. */
    private static void signs() {
        Doc.terms("signs ; ( ) < > = + - * / %");
        for (int b = 0; b < 256; b++) {
            char c = (char) b;
            String text = "sign 1" + c + "1;";
            if ("<>=+-*/%0123456789".indexOf(c) >= 0) good(text, 0);
            else if ("()".indexOf(c) >= 0) bad(text, 2, 6);
            else if (" \n;".indexOf(c) >= 0) bad(text, 2, 7);
            else if (c >= 'a' && c <= 'z') bad(text, 1, 5);
            else bad(text, 1, 6);
        }
    }

    /** Each byte there is, between a word and a number, and alone. */
    private static void blanks() {
        Doc.terms("blanks (32, 10) part them or not");
        for (int b = 0; b < 256; b++) {
            char c = (char) b;
            boolean letter = c >= 'a' && c <= 'z';
            boolean digit = c >= '0' && c <= '9';
            boolean sign = ";()<>=+-*/%".indexOf(c) >= 0;
            String text = "fog" + c + "5;";
            if (c == 32 || c == 10 || digit) good(text, 0);
            else if (letter) bad(text, 2, 0);
            else bad(text, sign ? 2 : 1, 3);
            if (c == 32 || c == 10) good("" + c, 0);
            else bad("" + c, letter || digit || sign ? 2 : 1, 0);
        }
        good("fog5;draw6;sign(many)and(1)or not(2);", 0);
        good("\n \n person \n a\n\n keeps\nshame\n1 \n bears 2 \n ; \n fog \n 5 \n ; ", 1);
        good("person a;person b;knows\na\nb;", 2);
        bad("person a;person b;knows ab;", 5, 24);
        bad("per son a;", 2, 0);
    }

    private static void longest() {
        Doc.terms("each is as long as can be");
        bad("persona;", 2, 0);
        bad("person a keepsshame 1;", 1, 9);
        bad("person a keepssha 1;", 2, 9);
        bad("sign manyor 1;", 2, 5);
        bad("fog 1 2;", 2, 6);
        bad("sign 1 2;", 2, 7);
        Checks.due("twelve, not one and two", good("fog 12;", 0).about(11), 12);
        Checks.due("not 1: a word ends at a digit", good("sign not1;", 0).sign(0), 0);
        Checks.due("people told ahead of the sign or not", good("person a;sign people;person b;", 2).sign(0), 2);
        Doc.terms("no letter directly behind an N");
        bad("fog 5a;", 1, 4);
        bad("fog 5z;", 1, 4);
        bad("fog 5 a;", 2, 6);
        bad("fog 5\na;", 2, 6);
        bad("fog 5A;", 1, 5);
        bad("fog 5`;", 1, 5);
        bad("fog 5{;", 1, 5);
        bad("sign 1or 2;", 1, 5);
        bad("person a shame 1bears 2;", 1, 15);
        bad("person a shame 1bears", 1, 15);
        bad("fog 1234a", 1, 4);
        good("sign 1 or 2;", 0);
        good("sign(1)or(2);", 0);
        good("person a shame 1 bears 2;", 1);
    }

    private static void lines() {
        Doc.terms("line = person NAME [keeps] [shame N] [bears N] ;  |  knows NAME NAME ;  |  sign e ;  |  fog N ;  |  draw N ;.");
        for (int bits = 0; bits < 8; bits++) {
            String text = "person a" + ((bits & 1) == 1 ? " keeps" : "") + ((bits & 2) == 2 ? " shame 4" : "") + ((bits & 4) == 4 ? " bears 7" : "") + ";";
            StinkhornParish x = good(text, 1);
            Checks.due(text + " keeps", x.person(0, 0), bits & 1);
            Checks.due(text + " shame", x.person(0, 1), (bits & 2) * 2);
            Checks.due(text + " bears", x.person(0, 2), bits < 4 ? 0 : 7);
        }
        bad("person a shame 1 keeps;", 2, 17);
        bad("person a bears 1 keeps;", 2, 17);
        bad("person a bears 1 shame 1;", 2, 17);
        bad("person a keeps keeps;", 2, 15);
        bad("person a shame 1 shame 1;", 2, 17);
        bad("person a bears 1 bears 1;", 2, 17);
        bad("person a shame keeps;", 2, 15);
        bad("person a keeps", 2, 14);
        bad("person a shame", 2, 14);
        bad("person a shame 1", 2, 16);
        bad("person a bears 1", 2, 16);
        bad("person;", 2, 6);
        bad("person a;;", 2, 9);
        bad("person a;person b;knows a;", 2, 25);
        bad("person a;person b;knows;", 2, 23);
        bad("person a;person b;knows a b", 2, 27);
        bad("person a;person b;knows a b a;", 2, 28);
        bad("fog;", 2, 3);
        bad("fog a;", 2, 4);
        bad("fog -1;", 2, 4);
        bad("fog 1", 2, 5);
        bad("fog 1+1;", 2, 5);
        bad("draw;", 2, 4);
        bad("draw -1;", 2, 5);
        bad("draw 1", 2, 6);
        bad("sign;", 2, 4);
        bad("sign", 2, 4);
        bad("sign 1", 2, 6);
        for (String own : "keeps shame bears or and not many first last people".split(" ")) bad(own + " 1;", 2, 0);
    }

    private static void formulaGrammar() {
        Doc.terms("e = both {or both}.  both = one {and one}.  one = not one | sum [(< | > | =) sum].  sum = term {(+ | -) term}.  "
            + "term = unit {(* | / | %) unit}.  unit = N | many | shame | first | last | people | ( e ).");
        for (String joint : "or and < > = + - * / %".split(" ")) {
            good("sign 1 " + joint + " 2;", 0);
            bad("sign 1 " + joint + ";", 2, 7 + joint.length());
            bad("sign " + joint + " 1;", 2, 5);
            bad("sign (1 " + joint + ");", 2, 8 + joint.length());
            bad("sign 1 " + joint, 2, 7 + joint.length());
        }
        for (String joint : "or and + - * / %".split(" ")) good("sign 1 " + joint + " 2 " + joint + " 3;", 0);
        for (String joint : "< > =".split(" ")) {
            bad("sign 1 " + joint + " 2 " + joint + " 3;", 2, 11);
            bad("sign 1 < 2 " + joint + " 3;", 2, 11);
            good("sign (1 " + joint + " 2) " + joint + " 3;", 0);
            good("sign 1 " + joint + " 2 and 1 " + joint + " 2;", 0);
            bad("sign 1 " + joint + " not 2;", 2, 9);
        }
        for (String joint : "+ - * / %".split(" ")) {
            bad("sign 1 " + joint + " not 2;", 2, 9);
            good("sign 1 " + joint + " (not 2);", 0);
        }
        good("sign 1 and not 2;", 0);
        good("sign 1 or not not 2;", 0);
        bad("sign not;", 2, 8);
        bad("sign 1 not 2;", 2, 7);
        bad("sign ();", 2, 6);
        bad("sign (1;", 2, 7);
        bad("sign (1", 2, 7);
        bad("sign (", 2, 6);
        bad("sign 1);", 2, 6);
        bad("sign ((1);", 2, 9);
        bad("sign (1));", 2, 8);
        bad("sign )1(;", 2, 5);
        for (String word : "a keeps bears person knows sign fog draw or and".split(" ")) bad("sign " + word + ";", 2, 5);
    }

    private static void names() {
        Doc.terms("Words that stand for themselves here are no NAMES.");
        for (String own : OWN_WORDS) {
            bad("person " + own + ";", 2, 7);
            bad("person a;knows " + own + " a;", 2, 15);
            bad("person a;knows a " + own + ";", 2, 17);
            String less = own.substring(0, own.length() - 1);
            String more = own + "s";
            good("person " + less + ";person " + more + ";knows " + less + " " + more + ";", 2);
        }
        good("person parish;person line;person e;person both;person one;person sum;", 6);
        good("person term;person unit;person n;person name;person no;person none;", 6);
    }

    private static void people() {
        Doc.terms("At most 6 PEOPLE");
        for (int n = 0; n <= 6; n++) good(Parishes.apart(n, 0), n);
        bad(SIX + "person g;", 2, SIX.length());
        bad(SIX + " \nperson g;", 2, SIX.length() + 2);
        bad(SIX + "person", 2, SIX.length());
        bad(SIX + "fog 1;person a;", 2, SIX.length() + 6);
        good(SIX + "fog 1;", 6);
        Doc.terms("(shame 0 .. 9, bears 0 .. 9, 0 both if not told)");
        for (int n = 0; n <= 9; n++) {
            StinkhornParish x = good("person a shame " + n + " bears " + (9 - n) + ";", 1);
            Checks.due("shame", x.person(0, 1), n);
            Checks.due("bears", x.person(0, 2), 9 - n);
        }
        bad("person a shame 10;", 4, 15);
        bad("person a bears 10;", 4, 15);
        bad("person a shame 9999;", 4, 15);
        bad("person a bears 9999;", 4, 15);
        bad("person a shame 9 bears 10;", 4, 23);
        bad("person a shame 10 bears 10;", 4, 15);
        StinkhornParish x = good("person a shame 9 bears 9;person b;person c bears 1;person d shame 1;", 4);
        int[][] due = {{9, 9}, {0, 0}, {0, 1}, {1, 0}};
        for (int p = 0; p < 4; p++) {
            Checks.due("shame of " + p, x.person(p, 1), due[p][0]);
            Checks.due("bears of " + p, x.person(p, 2), due[p][1]);
        }
        Doc.terms(", numbered as told; ");
        StinkhornParish y = good("person z keeps;person b shame 2;person a keeps shame 3;", 3);
        int[] keeps = {1, 0, 1};
        int[] shame = {0, 2, 3};
        for (int p = 0; p < 3; p++) {
            Checks.due("keeps " + p, y.person(p, 0), keeps[p]);
            Checks.due("shame " + p, y.person(p, 1), shame[p]);
        }
        Checks.due("the true world", y.about(1), 5);
    }

    private static void knowsLines() {
        Doc.terms("30 knows (two PEOPLE told ahead, unlike: the first one knows of the other one; each two once in this order)");
        String full = Parishes.full(6, 0);
        StinkhornParish x = good(full, 6);
        for (int p = 0; p < 6; p++) Checks.due("knows of all others", x.person(p, 3), 63 ^ 1 << p);
        bad(full + "knows a b;", 2, full.length());
        bad(full + "knows g h;", 2, full.length());
        bad(full + "knows", 2, full.length());
        bad(full + " knows !", 2, full.length() + 1);
        good(full + "fog 1;", 6);
        String almost = full.substring(0, full.length() - 10);
        bad(almost + "knows a b;", 3, almost.length() + 8);
        good(almost + "knows f e;", 6);
        bad("knows a b;person a;person b;", 5, 6);
        bad("person a;knows a b;person b;", 5, 17);
        bad("person b;knows a b;person a;", 5, 15);
        good("person a;person b;knows a b;person c;knows c a;", 3);
        bad("person a;person b;knows a a;", 3, 26);
        bad("person a;person b;knows b b;", 3, 26);
        StinkhornParish one = good("person a;person b;knows a b;", 2);
        Checks.due("the first one knows", one.person(0, 3), 2);
        Checks.due("the other one does not", one.person(1, 3), 0);
        good("person a;person b;knows a b;knows b a;", 2);
        bad("person a;person b;knows a b;knows a b;", 3, 36);
        bad("person a;person b;knows a b;knows b a;knows b a;", 3, 46);
    }

    private static void onceEach() {
        Doc.terms("sign, fog (0 .. 100 of 100; 0), draw (0 .. 999; 0) once each");
        int[] due = {0, 1, 99, 100};
        for (int n : due) Checks.due("fog " + n, good("fog " + n + ";", 0).about(11), n);
        bad("fog 101;", 4, 4);
        bad("fog 9999;", 4, 4);
        Checks.due("fog not told", good("draw 5;sign 1;", 0).about(11), 0);
        for (int n : new int[] {0, 1, 998, 999}) Checks.due("draw " + n, good("draw " + n + ";", 0).about(4), n);
        bad("draw 1000;", 4, 5);
        bad("draw 9999;", 4, 5);
        Checks.due("draw not told", good("fog 5;sign 1;", 0).about(4), 0);
        Checks.due("sign not told", good("person a;", 1).sign(1), 1);
        Checks.due("no units then", good("person a;", 1).about(10), 0);
        for (String line : new String[] {"sign 0;", "fog 0;", "draw 0;"}) {
            bad(line + line, 2, line.length());
            bad(line + "person a;" + line, 2, line.length() + 9);
            bad(line + line.substring(0, line.length() - 3), 2, line.length());
        }
        good("sign 0;fog 0;draw 0;", 0);
        good("draw 1;sign 1;person a;fog 1;", 1);
        bad("fog 0;draw 0;sign 0;draw 0;", 2, 20);
        bad("sign(1)<2;sign", 2, 10);
    }

    private static String ones(int many) {
        return "1" + "+1".repeat(many - 1);
    }

    private static void units() {
        Doc.terms("60 units in all, 30 in one e");
        for (int n : new int[] {1, 2, 29, 30}) {
            StinkhornParish x = good("sign " + ones(n) + ";", 0);
            Checks.due("units", x.about(10), n);
            Checks.due("sum", x.sign(0), n);
        }
        String thirty = "sign " + ones(30);
        for (String unit : "1 many shame first last people (1)".split(" ")) {
            bad(thirty + "+" + unit + ";", 2, thirty.length() + 1);
            bad(thirty + " or not " + unit + ";", 2, thirty.length() + 8);
            good("sign " + ones(unit.length() == 3 ? 28 : 29) + "+" + unit + ";", 0);
        }
        bad(thirty + "+" + ones(30) + ";", 2, thirty.length() + 1);
        Checks.due("brackets are a unit, and what is in them", good("sign (many+1);", 0).about(10), 3);
        Checks.due("brackets in brackets", good("sign ((many));", 0).about(10), 3);
        Checks.due("not is none", good("sign not many;", 0).about(10), 1);
        Checks.due("thirty with brackets", good("sign (" + ones(29) + ");", 0).about(10), 30);
        bad("sign (" + ones(30) + ");", 2, 6 + 59 - 1);
        bad("sign (" + ones(29) + ")+1;", 2, 6 + 57 + 2);
        good("sign " + ones(14) + "+(" + ones(15) + ");", 0);
        bad("sign " + ones(15) + "+(" + ones(15) + ");", 2, 5 + 29 + 2 + 28);
        bad("sign " + ones(29) + "+(1);", 2, 5 + 57 + 2);
        // No unit at all stands behind the thirtieth: that is no unit too many.
        good(thirty + ";", 0);
        bad(thirty + ")", 2, thirty.length());
    }

    private static void nesting() {
        Doc.terms("(a unit ( e ), or a one behind not, within 6 others at most)");
        String[] around = {"(", "not "};
        for (int bits = 0; bits < 256; bits++) {
            StringBuilder seven = new StringBuilder("sign ");
            StringBuilder close = new StringBuilder();
            for (int i = 0; i < 7; i++) {
                seven.append(around[bits >> i & 1]);
                close.append((bits >> i & 1) == 0 ? ")" : "");
            }
            if (bits < 128) good(seven + "many" + close + ";", 0);
            bad(seven + around[bits >> 7] + "many" + close + ((bits >> 7) == 0 ? ")" : "") + ";", 2, seven.length());
        }
        good("sign (((((((1)))))))+(((((((1)))))));", 0);
        good("sign not not not not not not not 1 and not not not not not not not 1;", 0);
        bad("sign (((((((1))))))) and not not not not not not not not 1;", 2, 53);
        String six = "sign " + "(".repeat(6);
        good(six + "1+(1)+(1)" + ")".repeat(6) + ";", 0);
        bad(six + "1+((1))" + ")".repeat(6) + ";", 2, 14);
        bad(six + "(1)+(not 1)" + ")".repeat(6) + ";", 2, 16);
    }

    private static void places() {
        Doc.terms("FAULTS, the first by its place (bytes from 0; the end: the text's length), at one place the least:");
        bad("!", 1, 0);
        bad(" !", 1, 1);
        bad("person", 2, 6);
        bad("person \n ", 2, 9);
        bad("person a;fog 101;!", 4, 13);
        bad("person a;fog 1;! fog 101;", 1, 15);
        bad("person a;person a;knows z z;", 3, 16);
        bad("knows z z;person a;person a;", 5, 6);
        bad("fog 101 x", 4, 4);
        bad("fog x 101", 2, 4);
        bad("sign 1;sign 10000;", 2, 7);
        // One place, two faults: no token where nothing could stand, or where a number can't be so great.
        bad("fog 12345;", 1, 4);
        bad("person 12345;", 1, 7);
        bad("person a;knows !", 1, 15);
        bad("sign " + ones(30) + "+!", 1, 5 + 59 + 1);
        bad("sign " + ones(30) + "+12345;", 1, 5 + 59 + 1);
        bad("sign (((((((!", 1, 12);
        bad("fog 1 !", 1, 6);
        bad(SIX + "!", 1, SIX.length());
    }

    private static void faultOne() {
        Doc.terms("1 no TOKEN;");
        for (int b = 0; b < 256; b++) {
            char c = (char) b;
            boolean any = c == 32 || c == 10 || c >= 'a' && c <= 'z' || c >= '0' && c <= '9' || ";()<>=+-*/%".indexOf(c) >= 0;
            if (any) continue;
            bad("person a;" + c, 1, 9);
            bad("person a" + c + ";", 1, 8);
            bad("person " + c + ";", 1, 7);
            bad("fog 1" + c + ";", 1, 5);
        }
    }

    private static void faultTwo() {
        Doc.terms("2 one that can't stand there (one of a sort too many or a second time: at the line's first word; "
            + "a unit too many, what is within 7 others: at its first TOKEN, or the not);");
        bad(SIX + "\n person g keeps;", 2, SIX.length() + 2);
        bad("fog 1; fog 1;", 2, 7);
        bad("draw 1; draw 1;", 2, 8);
        bad("sign 1; sign 1;", 2, 8);
        bad("sign " + ones(30) + " + ( 1 );", 2, 5 + 59 + 3);
        bad("sign ((((((( ( 1 ))))))));", 2, 13);
        bad("sign ((((((( not 1 )))))));", 2, 13);
        bad("sign not not not not not not not (1);", 2, 33);
        bad("sign not not not not not not not  not 1;", 2, 34);
        bad("a b;", 2, 0);
        bad("( ", 2, 0);
        bad("7;", 2, 0);
    }

    private static void faultThree() {
        Doc.terms("3 a NAME told already, one who knows of himself, or of one told so already (at the second NAME);");
        bad("person a;person a;", 3, 16);
        bad("person a;person b;person a", 3, 25);
        bad("person abcdefgh;person abcdefgh keeps", 3, 23);
        good("person abcdefgh;person abcdefg;person a;person aa;person ab;person ba;", 6);
        bad("person a;knows a a;", 3, 17);
        bad("person a;knows a\n\n a", 3, 19);
        bad("person a;person b;knows a b;knows a  b;", 3, 37);
        bad("person a;person b;knows a b;knows a b", 3, 36);
        good("person a;person b;person c;knows a b;knows a c;knows b c;", 3);
        String five = Parishes.apart(5, 0);
        bad(five + "person e;", 3, five.length() + 7);
    }

    private static void faultFour() {
        Doc.terms("4 a number that can't be;");
        bad("person a shame 10", 4, 15);
        bad("person a shame  010;", 4, 16);
        good("person a shame 0009;", 1);
        bad("person a bears 10", 4, 15);
        bad("fog 101", 4, 4);
        good("fog 0100;", 0);
        bad("draw 1000", 4, 5);
        good("draw 0999;", 0);
        good("sign 9999;", 0);
        bad("fog 101;person a;person a;", 4, 4);
    }

    private static void faultFive() {
        Doc.terms("5 a NAME that none of the PEOPLE has.");
        bad("knows a b;", 5, 6);
        bad("knows a", 5, 6);
        bad("person a;knows b b;", 5, 15);
        bad("person a;knows a b;", 5, 17);
        bad("person a;knows a  b", 5, 18);
        bad("person ab;knows ab a;", 5, 19);
        bad("person a;knows a ab;", 5, 17);
        bad("person ab;person ac;knows ab ad;", 5, 29);
        bad("person abcdefgh;person a;knows a abcdefgg;", 5, 33);
    }
}
