/** The grammar, the limits, each fault and its place. */
public final class TextTests {
    public static void main(String[] args) {
        good();
        formulas();
        noTokens();
        outOfPlace();
        toldTwice();
        numbers();
        nobody();
        limits();
        Checks.done();
    }

    private static void good() {
        good("", 0);
        good(" \n \n", 0);
        good("person a;", 1);
        good("person\na\n;\nfog0;draw000;", 1);
        good("fog 100;draw 999;sign 9999;", 0);
        good("person a keeps shame 9 bears 9;", 1);
        good("person a shame 0;person b bears 0;person c keeps bears 1;", 3);
        good("person e;person parish;person line;person abcdefgh;knows e parish;knows parish e;", 4);
        good("sign people;person a;person b;", 2);
        good("person knowsa;person b;knows knowsa b;", 2);
        good("fog 0100;", 0);
    }

    private static void good(String text, int people) {
        StinkhornParish x = new StinkhornParish();
        Checks.tape(x, text);
        Checks.due("[" + text + "]", x.parish(), people);
        Checks.due("[" + text + "] fault " + x.fault(0) + " at", x.fault(1), -1);
    }

    private static void bad(String text, int fault, int place) {
        StinkhornParish x = new StinkhornParish();
        Checks.tape(x, text);
        Checks.due("[" + text + "]", x.parish(), -1);
        Checks.due("[" + text + "] fault", x.fault(0), fault);
        Checks.due("[" + text + "] place", x.fault(1), place);
        Checks.due("[" + text + "] tape", x.about(9), text.length());
    }

    /** Signs in the worlds of three with shame 1, 2 and 4, of which just the second one keeps. */
    private static void sign(String formula, int... due) {
        StinkhornParish x = Checks.told("sign " + formula + ";person a shame 1;person b keeps shame 2;person c shame 4;");
        for (int w = 0; w < due.length; w++) Checks.due("sign " + formula + " in " + w, x.sign(w), due[w]);
    }

    private static void formulas() {
        sign("many", 0, 1, 1, 2, 1, 2, 2, 3);
        sign("shame", 0, 1, 2, 3, 4, 5, 6, 7);
        sign("first", -1, 0, 1, 0, 2, 0, 1, 0);
        sign("last", -1, 0, 1, 1, 2, 2, 2, 2);
        sign("people", 3, 3, 3, 3, 3, 3, 3, 3);
        sign("2+3*4", 14);
        sign("(2+3)*4", 20);
        sign("10-3-2", 5);
        sign("100/5/2", 10);
        sign("17%10*2", 14);
        sign("(0-7)/2", -3);
        sign("(0-7)%2", -1);
        sign("7/0", 0);
        sign("7%0", 0);
        sign("7/many", 0, 7, 7, 3, 7, 3, 3, 2);
        sign("7%many", 0, 0, 0, 1, 0, 1, 1, 1);
        sign("9999*9999*9999", 9999 * 9999 * 9999);
        sign("(0-8192*8192*32)/(0-1)", Integer.MIN_VALUE);
        sign("(0-8192*8192*32)%(0-1)", 0);
        sign("many<2", 1, 1, 1, 0, 1, 0, 0, 0);
        sign("many>1", 0, 0, 0, 1, 0, 1, 1, 1);
        sign("many=1", 0, 1, 1, 0, 1, 0, 0, 0);
        sign("1+many>1*2", 0, 0, 0, 1, 0, 1, 1, 1);
        sign("2 and 3", 1);
        sign("2 and 0", 0);
        sign("0 or 5", 1);
        sign("0 or 0", 0);
        sign("1 or 0 and 0", 1);
        sign("(1 or 0) and 0", 0);
        sign("not 5", 0);
        sign("not 0", 1);
        sign("not not 5", 1);
        sign("not many=1", 1, 0, 0, 1, 0, 1, 1, 1);
        sign("not 0 and 0", 0);
        sign("(many>1)*5+(first=0)", 0, 1, 0, 6, 0, 6, 5, 6);
        sign("not(many)and(1)", 1, 0);
    }

    private static void noTokens() {
        bad("Person a;", 1, 0);
        bad("person a;!", 1, 9);
        bad("person a\t;", 1, 8);
        bad("person a\r;", 1, 8);
        bad("person " + (char) 233 + ";", 1, 7);
        bad("" + (char) 0, 1, 0);
        bad("person abcdefghi;", 1, 7);
        bad("fog 12345;", 1, 4);
        bad("fog 00012;", 1, 4);
        bad("fog 1a;", 1, 4);
        bad("fog 10 a;", 2, 7);
        bad("sign 1many;", 1, 5);
        bad("sign many1;", 2, 9);
        bad("sign 1 & 2;", 1, 7);
        bad("fog 1A;", 1, 5);
        // The first by its place: what can't stand there stands before what is no token.
        bad("person keeps !", 2, 7);
        bad("abcdefghij", 1, 0);
    }

    private static void outOfPlace() {
        bad("a", 2, 0);
        bad(";", 2, 0);
        bad("5", 2, 0);
        bad("keeps", 2, 0);
        bad("person", 2, 6);
        bad("person  ", 2, 8);
        bad("person ;", 2, 7);
        bad("person 5;", 2, 7);
        bad("person many;", 2, 7);
        bad("person a", 2, 8);
        bad("person a b;", 2, 9);
        bad("person a keeps keeps;", 2, 15);
        bad("person a shame 1 keeps;", 2, 17);
        bad("person a bears 1 shame 1;", 2, 17);
        bad("person a shame;", 2, 14);
        bad("person a shame b;", 2, 15);
        bad("person a bears;", 2, 14);
        for (String own : "person knows sign fog draw keeps bears shame many first last people or and not".split(" ")) bad("person " + own + ";", 2, 7);
        bad("person a;knows;", 2, 14);
        bad("person a;knows many a;", 2, 15);
        bad("person a;knows a;", 2, 16);
        bad("person a;knows a 1;", 2, 17);
        bad("person a;person b;knows a b b;", 2, 28);
        bad("fog;", 2, 3);
        bad("fog", 2, 3);
        bad("draw x;", 2, 5);
        bad("fog 1 1;", 2, 6);
        bad("sign;", 2, 4);
        bad("sign 1", 2, 6);
        bad("sign 1 2;", 2, 7);
        bad("sign 1<2<3;", 2, 8);
        bad("sign 1=2=3;", 2, 8);
        bad("sign 1+;", 2, 7);
        bad("sign 1+not 1;", 2, 7);
        bad("sign 1<not 1;", 2, 7);
        bad("sign -1;", 2, 5);
        bad("sign ();", 2, 6);
        bad("sign (1;", 2, 7);
        bad("sign 1);", 2, 6);
        bad("sign a;", 2, 5);
        bad("sign keeps;", 2, 5);
        bad("sign 1 or;", 2, 9);
        bad("sign not;", 2, 8);
        bad("sign 1 not 1;", 2, 7);
    }

    private static void toldTwice() {
        bad("person a;person a;", 3, 16);
        bad("person a;person b;person a keeps keeps", 3, 25);
        bad("person a;knows a a;", 3, 17);
        bad("person a;person b;knows a b;knows a b;", 3, 36);
        good("person a;person b;knows a b;knows b a;", 2);
        bad("fog 1;fog 2;", 2, 6);
        bad("draw 1;draw 2;", 2, 7);
        bad("sign 1;sign 2;", 2, 7);
        bad("fog 1;fog 200;", 2, 6);
        bad("fog 1;draw 1;sign 1;fog 2;", 2, 20);
        bad("sign 1;sign !", 2, 7);
    }

    private static void numbers() {
        bad("person a shame 10;", 4, 15);
        bad("person a bears 10;", 4, 15);
        bad("person a keeps shame 9 bears 9999;", 4, 29);
        bad("fog 101;", 4, 4);
        bad("draw 1000;", 4, 5);
        good("sign 9999;", 0);
        good("person a shame 09;", 1);
    }

    private static void nobody() {
        bad("knows a b;", 5, 6);
        bad("person a;knows a b;person b;", 5, 17);
        bad("person a;knows b a;person b;", 5, 15);
        bad("person a;knows z z;", 5, 15);
        bad("person ab;knows a ab;", 5, 16);
        bad("person a;knows ab a;", 5, 15);
    }

    private static void limits() {
        String six = "person a;person b;person c;person d;person e;person f;";
        good(six, 6);
        bad(six + "person g;", 2, six.length());
        bad(six + "person a;", 2, six.length());
        StringBuilder all = new StringBuilder(six);
        for (char c = 'a'; c < 'g'; c++) {
            for (char d = 'a'; d < 'g'; d++) if (c != d) all.append("knows ").append(c).append(' ').append(d).append(';');
        }
        good(all.toString(), 6);
        bad(all + "knows a b;", 2, all.length());
        bad(all + "knows z z;", 2, all.length());
        units();
        nesting();
    }

    private static void units() {
        StringBuilder sum = new StringBuilder("sign 1");
        for (int i = 1; i < 30; i++) sum.append("+1");
        StinkhornParish x = Checks.told(sum + ";");
        Checks.due("thirty units", x.about(10), 30);
        Checks.due("thirty ones", x.sign(0), 30);
        bad(sum + "+many;", 2, sum.length() + 1);
        bad(sum + "+(1);", 2, sum.length() + 1);
        Checks.due("brackets are a unit, too", Checks.told("sign ((many))+1;").about(10), 4);
        String within = sum.substring(5, sum.length() - 2);
        good("sign (" + within + ");", 0);
        bad("sign (" + within + "+1);", 2, 6 + within.length() + 1);
        bad("sign (" + within + ")+1;", 2, 6 + within.length() + 2);
        StringBuilder denied = new StringBuilder("sign ");
        for (int i = 0; i < 30; i++) denied.append(i == 0 ? "" : "and ").append("not not not not not not not 0 ");
        Checks.due("all of not, not, ..", Checks.told(denied + ";").sign(0), 1);
    }

    private static void nesting() {
        good("sign (((((((1)))))));", 0);
        bad("sign ((((((((1))))))));", 2, 12);
        good("sign not not not not not not not 1;", 0);
        bad("sign not not not not not not not not 1;", 2, 33);
        good("sign not (not (not (not 1)));", 0);
        bad("sign not (not (not (not (1))));", 2, 24);
        bad("sign ((((((not (1)))))));", 2, 15);
        good("sign (((((((1))))))) + (((((((1)))))));", 0);
        bad("sign (((((((not 1)))))));", 2, 12);
    }
}
