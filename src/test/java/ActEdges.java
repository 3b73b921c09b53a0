/** The edges of the object's own calls: the tape, the parish, signs and worlds, acts, undo and redo, images. */
final class ActEdges {
    private static final int MIN = Integer.MIN_VALUE;
    private static final int MAX = Integer.MAX_VALUE;
    private static final int BLANKS = 0x20202020;

    private ActEdges() { }

    static void run() {
        aNewObject();
        feed();
        end();
        parish();
        fault();
        person();
        worldsAndSigns();
        formulas();
        worldsAtFirst();
        seeds();
        fog();
        mornings();
        behind999();
        measuring();
        asking();
        pegging();
        whispering();
        undoing();
        keptActs();
        images();
        about();
    }

    private static void aNewObject() {
        Doc.says(1, "An empty PARISH.");
        StinkhornParish x = new StinkhornParish();
        for (int what = 0; what <= 12; what++) Checks.due("about " + what, x.about(what), 0);
        Checks.due("worlds", x.worlds(), 1);
        Checks.due("possible 0", x.possible(0), 1);
        Checks.due("possible 1", x.possible(1), -1);
        Checks.due("sign 0", x.sign(0), 0);
        Checks.due("sign 1", x.sign(1), -1000000000);
        Checks.due("person 0", x.person(0, 0), -1);
        Checks.due("undo", x.undo(), false);
        Checks.due("redo", x.redo(), false);
        for (int box = 0; box < 3; box++) Checks.due("back " + box, x.back(box), -1);
        Checks.due("lies 0", x.lies(0), -1);
        Doc.terms("The constants: `NONE = -1`: There is none.");
        Checks.due("NONE", StinkhornParish.NONE, -1);
    }

    // ------------------------------------------------------------ the tape

    private static void feed() {
        Doc.says(2, "Twenty bytes come behind those on the TAPE, of each number the highest first: how many there are");
        for (int at = 0; at < 20; at++) {
            for (int odd : new int[] {'!', 0, 127, 128, 255}) {
                int[] five = {BLANKS, BLANKS, BLANKS, BLANKS, BLANKS};
                int shift = 24 - at % 4 * 8;
                five[at / 4] = BLANKS & ~(255 << shift) | odd << shift;
                StinkhornParish x = new StinkhornParish();
                Checks.due("feed", x.feed(five[0], five[1], five[2], five[3], five[4]), 20);
                Checks.due("parish", x.parish(), -1);
                Checks.due("fault", x.fault(0), 1);
                Checks.due("place", x.fault(1), at);
            }
        }
        StinkhornParish y = new StinkhornParish();
        for (int i = 1; i <= 80; i++) Checks.due("feed " + i, y.feed(BLANKS, BLANKS, BLANKS, BLANKS, BLANKS), 20 * i);
        Doc.says(2, "NONE, and nothing comes, if there would be more than 1,600.");
        for (int bytes : new int[] {1581, 1582, 1599, 1600}) {
            Twins.unmoved("feed to " + bytes, x -> fill(x, bytes), x -> x.feed('!', '!', '!', '!', '!'), -1);
            Twins.unmoved("feed to a full one, " + bytes, x -> { Twins.full(x); x.end(bytes); }, x -> x.feed(BLANKS, 0, 0, 0, 0), -1);
        }
        for (int bytes : new int[] {0, 1, 1579, 1580}) {
            StinkhornParish x = new StinkhornParish();
            fill(x, bytes);
            Checks.due("feed to " + bytes, x.feed('!', '!', '!', '!', '!'), bytes + 20);
            Checks.due("bytes", x.about(9), bytes + 20);
        }
        Checks.due("feed then", y.feed(0, 0, 0, 0, 0), -1);
        Checks.due("bytes then", y.about(9), 1600);
        Checks.due("what was there is the parish", y.parish(), 0);
        Checks.due("feed once it is empty", y.feed(0, 0, 0, 0, 0), 20);
    }

    private static void fill(StinkhornParish x, int bytes) {
        Checks.tape(x, " ".repeat(bytes));
    }

    private static void end() {
        Doc.says(3, "The TAPE has its first n bytes: n");
        StinkhornParish x = new StinkhornParish();
        Checks.due("end 0 of none", x.end(0), 0);
        Checks.tape(x, "person a;person b;xx");
        Checks.due("end 20", x.end(20), 20);
        Checks.due("end 19", x.end(19), 19);
        Checks.due("end 18", x.end(18), 18);
        Checks.due("bytes", x.about(9), 18);
        Checks.due("people", x.parish(), 2);
        Checks.tape(x, "person a;person b;");
        Checks.due("end 9", x.end(9), 9);
        x.feed(BLANKS, BLANKS, BLANKS, BLANKS, BLANKS);
        Checks.due("what was cut does not come again", x.parish(), 1);
        Checks.tape(x, "person a;");
        Checks.due("end 0", x.end(0), 0);
        Checks.due("bytes", x.about(9), 0);
        Checks.due("nothing", x.parish(), 0);
        Doc.says(3, "NONE, doing nothing, if it has not so many, or n is below 0.");
        Checks.due("end 1 of none", new StinkhornParish().end(1), -1);
        for (int n : new int[] {-1, MIN, 22, 23, 1600, 1601, MAX}) Twins.unmoved("end " + n, Twins::eventful, y -> y.end(n), -1);
        for (int n : new int[] {-1, 1601, MAX}) Twins.unmoved("end " + n + " of a full one", Twins::full, y -> y.end(n), -1);
        StinkhornParish full = new StinkhornParish();
        Twins.full(full);
        Checks.due("end 1600", full.end(1600), 1600);
        Checks.due("end 1599", full.end(1599), 1599);
        Checks.due("end 1600 no more", full.end(1600), -1);
    }

    // ------------------------------------------------------------ parish and fault

    private static void parish() {
        Doc.says(4, "The TAPE (empty then) is the PARISH (all as told, morning 0, nobody has OWNED, no ACTS are kept, nothing is SEEN, "
            + "nothing lies there, BOXES are empty then; the TIME stays): how many PEOPLE");
        for (int n = 0; n <= 6; n++) {
            StinkhornParish x = new StinkhornParish();
            Twins.eventful(x);
            x.end(0);
            Checks.tape(x, Parishes.apart(n, 0) + "draw 8;fog 3;sign (2);");
            Checks.due("parish", x.parish(), n);
            int[] anew = {n, 0, 0, 0, 8, 0, 0, 0, 5, 0, 2, 3, 0};
            for (int what = 0; what < anew.length; what++) Checks.due("about " + what, x.about(what), anew[what]);
            for (int p = 0; p < n; p++) {
                for (int what = 0; what < 5; what++) Checks.due("person " + p + " " + what, x.person(p, what), 0);
            }
            Checks.due("worlds", x.worlds(), 1 << n);
            Checks.due("undo", x.undo(), false);
            Checks.due("redo", x.redo(), false);
            Checks.due("lies", x.lies(0), -1);
            Checks.due("fits", x.fits(100000), 1 << n);
            Checks.due("untell", x.untell(0), false);
            for (int box = 0; box < 3; box++) Checks.due("back " + box, x.back(box), -1);
        }
        nothingOfTheOneBefore("");
        nothingOfTheOneBefore("fog 50;draw 500;sign 5;person z keeps shame 5 bears 5;person y;knows z y;!");
        StinkhornParish owned = Checks.told(Parishes.full(2, 1));
        owned.morning();
        Checks.due("owned", owned.about(2), 1);
        Checks.tape(owned, Parishes.full(2, 1));
        Checks.due("told again", owned.parish(), 2);
        Checks.due("nobody has owned", owned.about(2), 0);
        Checks.due("all worlds again", owned.worlds(), 3);
        Checks.due("an empty tape is a parish, too", owned.parish(), 0);
        Checks.due("of nobody", owned.about(0), 0);
        Checks.due("nothing in fog", owned.about(11), 0);
        Doc.says(4, "NONE: a FAULT (all stays).");
        String[] faulty = {"!", "person p keeps;person", "person p;person p;", "person p keeps shame 10;", "person p;fog 9;draw 9;sign 2;knows p q;",
            Parishes.apart(6, 63) + "person g;", "sign 5;fog 50;draw 500;sign 6;"};
        int[] kinds = {1, 2, 3, 4, 5, 2, 2};
        for (int i = 0; i < faulty.length; i++) {
            String text = faulty[i];
            Twins.unmovedButForFault(text, x -> { Twins.eventful(x); x.end(0); Checks.tape(x, text); }, x -> x.parish(), -1);
            Twins.unmoved(text + " once more", x -> { Twins.eventful(x); x.end(0); Checks.tape(x, text); x.parish(); }, x -> x.parish(), -1);
            Twins.unmovedButForFault(text + " in a full one", x -> { Twins.full(x); x.end(0); Checks.tape(x, text); }, x -> x.parish(), -1);
            StinkhornParish x = new StinkhornParish();
            Checks.tape(x, text);
            x.parish();
            Checks.due(text, x.fault(0), kinds[i]);
            Checks.due("bytes on the tape", x.about(9), text.length());
        }
    }

    /** What one text tells, and another one with a fault, is not told by a later one that is silent of it. */
    private static void nothingOfTheOneBefore(String faulty) {
        StinkhornParish x = Checks.told(Parishes.full(6, 63, " shame 9 bears 9") + "sign (5);fog 50;draw 500;");
        x.fits(0);
        if (!faulty.isEmpty()) {
            Checks.tape(x, faulty);
            Checks.due("a fault", x.parish(), -1);
            x.end(0);
        }
        Checks.tape(x, "person a;person b;");
        Checks.due("parish", x.parish(), 2);
        int[] anew = {2, 0, 0, 0, 0, 0, 0, 0, 0, 0, 0, 0, 0};
        for (int what = 0; what < anew.length; what++) Checks.due("about " + what, x.about(what), anew[what]);
        for (int p = 0; p < 2; p++) {
            for (int what = 0; what < 5; what++) Checks.due("person " + p + " " + what, x.person(p, what), 0);
        }
        for (int w = 0; w < 4; w++) Checks.due("sign " + w, x.sign(w), Integer.bitCount(w));
        Checks.due("no such world", x.sign(4), -1000000000);
        Checks.due("no such one", x.person(2, 0), -1);
        Checks.due("odds", x.odds(1, 1), 1);
        Checks.due("name of the one before", feedAndRead(x, "person a;knows a b;"), 5);
    }

    private static int feedAndRead(StinkhornParish x, String text) {
        Checks.tape(x, text);
        x.parish();
        return x.fault(0);
    }

    private static void fault() {
        Doc.says(5, "Of the latest parish() what 0: its FAULT (0), 1: its place (NONE).");
        StinkhornParish x = new StinkhornParish();
        Checks.due("before any: fault", x.fault(0), 0);
        Checks.due("before any: place", x.fault(1), -1);
        Checks.tape(x, "  !");
        Checks.due("not read yet", x.fault(0), 0);
        x.parish();
        Checks.due("fault", x.fault(0), 1);
        Checks.due("place", x.fault(1), 2);
        x.end(0);
        Checks.due("of the latest one still", x.fault(0), 1);
        Checks.due("of the latest one still", x.fault(1), 2);
        Checks.tape(x, ";");
        x.parish();
        Checks.due("of another one: fault", x.fault(0), 2);
        Checks.due("at the first byte", x.fault(1), 0);
        x.end(0);
        x.parish();
        Checks.due("without a fault", x.fault(0), 0);
        Checks.due("without a place", x.fault(1), -1);
        Doc.says(5, "NONE for another what.");
        for (int what : new int[] {2, 3, -1, MIN, MAX}) {
            Checks.due("fault " + what, x.fault(what), -1);
            Twins.unmoved("fault " + what, Twins::eventful, y -> y.fault(what), -1);
        }
    }

    private static void person() {
        Doc.says(6, "Of one of the PEOPLE what 0: 1 if a KEEPER (TRUE), else 0, 1: shame, 2: bears, 3: of whom he knows, as bits, 4: 1 if he has OWNED, else 0");
        StinkhornParish x = Checks.told("person a;person b;person c;person d;person e;person f keeps shame 9 bears 9;knows f a;knows f e;sign many=1 and last=5;");
        int[][] due = {{0, 0, 0, 0, 0}, {1, 9, 9, 17, 0}};
        for (int what = 0; what < 5; what++) {
            Checks.due("the first one, what " + what, x.person(0, what), due[0][what]);
            Checks.due("the last one, what " + what, x.person(5, what), due[1][what]);
        }
        for (int i = 0; i < 9; i++) x.morning();
        Checks.due("has not owned behind nine", x.person(5, 4), 0);
        x.morning();
        Checks.due("has owned behind ten", x.person(5, 4), 1);
        x.undo();
        Checks.due("undone", x.person(5, 4), 0);
        Doc.says(6, "NONE if there is none such, or for another what.");
        for (int n = 0; n <= 6; n++) {
            StinkhornParish y = Checks.told(Parishes.apart(n, 0));
            for (int what = 0; what < 5; what++) {
                for (int p : new int[] {-1, n, n + 1, MIN, MAX}) Checks.due("person " + p + " of " + n, y.person(p, what), -1);
                if (n > 0) Checks.due("the last one of " + n, y.person(n - 1, what), 0);
            }
            for (int what : new int[] {-1, 5, MIN, MAX}) Checks.due("what " + what, y.person(0, what), -1);
        }
    }

    // ------------------------------------------------------------ worlds and signs

    private static void worldsAndSigns() {
        Doc.terms("==== 2. A WORLD tells who keeps something (KEEPERS), as bits. The TRUE one is that of those who keep as told.");
        for (int keepers = 0; keepers < 64; keepers++) Checks.due("the true world", Checks.told(Parishes.apart(6, keepers)).about(1), keepers);
        Doc.says(7, "The SIGN in a WORLD (whether it is POSSIBLE or not)");
        StinkhornParish signs = Checks.told(Parishes.apart(2, 1) + "sign many - 1;");
        int[] due = {-1, 0, 0, 1};
        for (int w = 0; w < 4; w++) Checks.due("sign " + w, signs.sign(w), due[w]);
        Checks.due("not possible", signs.possible(3), 0);
        signs.peg(0);
        for (int w = 0; w < 4; w++) Checks.due("sign " + w, signs.sign(w), due[w]);
        Doc.says(7, "-1000000000 if there is none such.");
        Doc.says(8, "1 if a WORLD is POSSIBLE, else 0");
        Doc.says(8, "NONE if there is none such.");
        Doc.says(9, "How many WORLDS are POSSIBLE.");
        for (int n = 0; n <= 6; n++) {
            StinkhornParish x = Checks.told(Parishes.apart(n, 0) + "sign 0-5;");
            int last = (1 << n) - 1;
            Checks.due("sign of the first", x.sign(0), -5);
            Checks.due("sign of the last", x.sign(last), -5);
            Checks.due("the first is possible", x.possible(0), 1);
            Checks.due("the last is possible", x.possible(last), 1);
            Checks.due("worlds", x.worlds(), 1 << n);
            for (int w : new int[] {-1, last + 1, 64, 65, MIN, MAX}) {
                Checks.due("sign " + w, x.sign(w), -1000000000);
                Checks.due("possible " + w, x.possible(w), -1);
            }
            for (int p = 0; p < n; p++) x.peg(p);
            Checks.due("one world", x.worlds(), 1);
            Checks.due("the first is possible", x.possible(0), 1);
            if (n > 0) Checks.due("the last is not", x.possible(last), 0);
        }
        Checks.due("a sign that looks like none", Checks.told("sign 0-1000*1000*1000;").sign(0), -1000000000);
    }

    /** Three with shame 1, 2, 4; none of them is the formula's first person by its name. */
    private static void sign(String formula, int... due) {
        StinkhornParish x = Checks.told("sign " + formula + ";person a shame 1;person b shame 2;person c shame 4;");
        for (int w = 0; w < 8; w++) Checks.due("sign " + formula + " in " + w, x.sign(w), due[due.length == 1 ? 0 : w]);
    }

    private static void formulas() {
        Doc.terms("The SIGN in a WORLD is what comes of sign (many, if it is not told) by many (how many KEEPERS there are), shame (theirs, together), "
            + "first, last (the number of the first, of the last one of them; -1 without any), people (how many PEOPLE; ");
        StinkhornParish untold = Checks.told(Parishes.apart(6, 0));
        for (int w = 0; w < 64; w++) Checks.due("not told: many", untold.sign(w), Integer.bitCount(w));
        sign("many", 0, 1, 1, 2, 1, 2, 2, 3);
        sign("shame", 0, 1, 2, 3, 4, 5, 6, 7);
        sign("first", -1, 0, 1, 0, 2, 0, 1, 0);
        sign("last", -1, 0, 1, 1, 2, 2, 2, 2);
        sign("people", 3);
        for (int n = 0; n <= 6; n++) Checks.due("people", Checks.told("sign people*10;" + Parishes.apart(n, 0)).sign(0), n * 10);
        StinkhornParish six = Checks.told(Parishes.full(6, 0, " shame 9") + "sign shame*100+first*10+last;");
        Checks.due("none", six.sign(0), -11);
        Checks.due("the last one", six.sign(32), 955);
        Checks.due("all", six.sign(63), 5405);
        Doc.terms("ints, wrapping; / cut, % its rest, both by 0: 0;");
        int most = MAX;
        sign("8192*8192*32", MIN);
        sign("8192*8192*32-1", most);
        sign("8192*8192*32-1+1", MIN);
        sign("8192*8192*32-1+many", most, MIN, MIN, MIN + 1, MIN, MIN + 1, MIN + 1, MIN + 2);
        sign("0-8192*8192*32", MIN);
        sign("9999*9999*9999", 9999 * 9999 * 9999);
        sign("(8192*8192*32)/(0-1)", MIN);
        sign("(8192*8192*32)%(0-1)", 0);
        sign("(8192*8192*32)*(0-1)", MIN);
        sign("7/2", 3);
        sign("(0-7)/2", -3);
        sign("7/(0-2)", -3);
        sign("(0-7)/(0-2)", 3);
        sign("1/2", 0);
        sign("(0-1)/2", 0);
        sign("7%2", 1);
        sign("(0-7)%2", -1);
        sign("7%(0-2)", 1);
        sign("(0-7)%(0-2)", -1);
        sign("6%3", 0);
        sign("5/0", 0);
        sign("5%0", 0);
        sign("(0-5)/0", 0);
        sign("(0-5)%0", 0);
        sign("0/0", 0);
        sign("0%0", 0);
        sign("9/(many-1)", -9, 0, 0, 9, 0, 9, 9, 4);
        sign("9%(many-1)", 0, 0, 0, 0, 0, 0, 0, 1);
        sign("5/0+3", 3);
        sign("100-10-1", 89);
        sign("100/10/5", 2);
        sign("100/10*5", 50);
        sign("17%10%4", 3);
        sign("2+3*4", 14);
        sign("2*3+4", 10);
        sign("2+3<4", 0);
        Doc.terms("relations, and, or, not are 1 or 0, of what is not 0).");
        sign("many<1", 1, 0, 0, 0, 0, 0, 0, 0);
        sign("many<2", 1, 1, 1, 0, 1, 0, 0, 0);
        sign("many>1", 0, 0, 0, 1, 0, 1, 1, 1);
        sign("many>2", 0, 0, 0, 0, 0, 0, 0, 1);
        sign("many=2", 0, 0, 0, 1, 0, 1, 1, 0);
        sign("first<0", 1, 0, 0, 0, 0, 0, 0, 0);
        sign("0-1<0", 1);
        sign("0-1>0", 0);
        sign("8192*8192*32<0", 1);
        sign("8192*8192*32-1>0", 1);
        sign("3 and 5", 1);
        sign("(0-3) and 5", 1);
        sign("3 and 0", 0);
        sign("0 and 3", 0);
        sign("3 or 5", 1);
        sign("0 or 0-5", 1);
        sign("5 or 0", 1);
        sign("0 or 0", 0);
        sign("not 3", 0);
        sign("not (0-3)", 0);
        sign("not 0", 1);
        sign("not not 3", 1);
        sign("not not 0", 0);
        sign("1 or 1 and 0", 1);
        sign("0 and 0 or 1", 1);
        sign("0 and (0 or 1)", 0);
        sign("not 1 or 1", 1);
        sign("not (1 or 1)", 0);
        sign("not 1=2", 1);
        sign("not 0 and 0", 0);
        sign("(1 and 2)+(3 or 0)+(not 0)", 3);
        sign("2 < 3 and 3 > 2 and 2 = 2", 1);
    }

    private static void worldsAtFirst() {
        Doc.terms("WORLDS are those that are POSSIBLE yet: at first all in which the SIGN is above 0 just if it is so in the TRUE one.");
        // In the world w the sign is many - 1: -1, 0, 0, 1.
        int[][] due = {{1, 1, 1, 0}, {1, 1, 1, 0}, {1, 1, 1, 0}, {0, 0, 0, 1}};
        for (int truth = 0; truth < 4; truth++) {
            StinkhornParish x = Checks.told(Parishes.apart(2, truth) + "sign many-1;");
            for (int w = 0; w < 4; w++) Checks.due("truth " + truth + " world " + w, x.possible(w), due[truth][w]);
        }
        Checks.due("wrapped below 0", Checks.told(Parishes.apart(1, 1) + "sign many*8192*8192*32;").worlds(), 2);
        Checks.due("as great as can be", Checks.told(Parishes.apart(1, 1) + "sign many*8192*8192*32-many;").worlds(), 1);
        Checks.due("above 0 in all", Checks.told(Parishes.apart(6, 9) + "sign 1;").worlds(), 64);
        Checks.due("0 in all", Checks.told(Parishes.apart(6, 9) + "sign 0;").worlds(), 64);
        Checks.due("not told, nobody keeps", Checks.told(Parishes.apart(6, 0)).worlds(), 1);
        Checks.due("not told, somebody keeps", Checks.told(Parishes.apart(6, 32)).worlds(), 63);
    }

    // ------------------------------------------------------------ mornings

    private static void seeds() {
        Doc.terms("A MORNING: the SEED (draw, at first) becomes its 137-fold and 71 more, modulo 1,000;");
        for (int draw = 0; draw < 1000; draw++) {
            StinkhornParish x = Checks.told("draw " + draw + ";");
            Checks.due("seed", x.about(4), draw);
            x.morning();
            Checks.due("seed then", x.about(4), (137 * draw + 71) % 1000);
        }
        StinkhornParish x = Checks.told("draw 999;");
        int[] due = {934, 29, 44, 99, 634};
        for (int seed : due) {
            x.morning();
            Checks.due("one behind the other", x.about(4), seed);
        }
    }

    private static void fog() {
        Doc.terms("if its rest by 100 is less than fog tells, nothing comes of it;");
        for (int draw = 0; draw < 1000; draw += 7) {
            int rest = (137 * draw + 71) % 100;
            for (int fog : new int[] {0, 1, rest - 1, rest, rest + 1, 99, 100}) {
                if (fog < 0) continue;
                StinkhornParish x = Checks.told("person a keeps;sign 1;fog " + fog + ";draw " + draw + ";");
                x.peg(0);
                Checks.due("rest " + rest + " fog " + fog, x.morning(), rest < fog ? 0 : 1);
                Checks.due("owned", x.about(2), rest < fog ? 0 : 1);
            }
        }
        int[][] edges = {{17, 0, 1}, {17, 1, 0}, {44, 99, 1}, {44, 100, 0}};
        for (int[] e : edges) Checks.due("draw " + e[0] + " fog " + e[1], Checks.told("person a keeps;draw " + e[0] + ";fog " + e[1] + ";").morning(), e[2]);
        StinkhornParish thick = Checks.told(Parishes.full(3, 3) + "fog 100;");
        for (int i = 1; i <= 20; i++) {
            Checks.due("fog on each", thick.morning(), 0);
            Checks.due("all worlds stay", thick.worlds(), 7);
            Checks.due("they have gone by all the same", thick.about(3), i);
        }
    }

    private static void mornings() {
        Doc.terms("In a WORLD one of the PEOPLE takes all WORLDS that are POSSIBLE for it that tell the same as it of all of whom he knows. "
            + "He KNOWS what is so in all of these. He would OWN in a WORLD on a MORNING, if he KNOWS there that he is a KEEPER himself, "
            + "and as many MORNINGS as he bears have gone by at least.");
        for (int bears = 0; bears <= 9; bears++) {
            StinkhornParish x = Checks.told("person a keeps bears " + bears + ";");
            for (int i = 0; i < bears; i++) Checks.due("bears " + bears + ", gone by " + i, x.morning(), 0);
            Checks.due("bears " + bears + " no longer", x.morning(), 1);
        }
        Doc.terms("else all who would OWN in the TRUE WORLD OWN, and just those WORLDS stay POSSIBLE in which the same ones would OWN. "
            + "The morning (0 at first: so many have gone by) goes up by 1.");
        Doc.says(10, "A MORNING: who OWNS on it, as bits (who has OWNED already, too; 0 in fog)");
        Doc.says(10, "(An ACT.)");
        for (int k = 1; k <= 6; k++) {
            StinkhornParish x = Checks.told(Parishes.full(6, Parishes.all(k)));
            for (int m = 1; m < k; m++) {
                Checks.due("too early", x.morning(), 0);
                int left = 0;
                for (int w = 0; w < 64; w++) left += Integer.bitCount(w) > m ? 1 : 0;
                Checks.due("more than " + m + " of them", x.worlds(), left);
            }
            Checks.due("on the " + k + "th", x.morning(), Parishes.all(k));
            Checks.due("one world", x.worlds(), 1);
            Checks.due("and again", x.morning(), Parishes.all(k));
            Checks.due("gone by", x.about(3), k + 1);
            Checks.due("acts", x.about(5), k + 1);
        }
        // The seeds 71, 798, 397: of their rests 71, 98, 97 just the second one is not below 98.
        StinkhornParish x = Checks.told(Parishes.full(2, 1) + "fog 98;");
        int[] due = {0, 1, 0};
        for (int owns : due) Checks.due("morning", x.morning(), owns);
        Checks.due("who has owned in spite of fog", x.about(2), 1);
        Checks.due("nobody: a morning", new StinkhornParish().morning(), 0);
    }

    /** An object is promised for 512 calls only, but there is no other way to get there. */
    private static void behind999() {
        Doc.says(10, "NONE, doing nothing, behind 999 of them.");
        StinkhornParish x = Checks.told(Parishes.full(3, 3) + "fog 100;");
        for (int i = 0; i < 998; i++) x.morning();
        Checks.due("morning 999", x.morning(), 0);
        Checks.due("gone by", x.about(3), 999);
        x.peg(0);
        x.undo();
        int seed = x.about(4);
        Checks.due("no more", x.morning(), -1);
        Checks.due("gone by", x.about(3), 999);
        Checks.due("seed", x.about(4), seed);
        Checks.due("acts", x.about(5), 39);
        Checks.due("to be redone", x.about(6), 1);
        Checks.due("other acts go on", x.peg(1), 1);
        Checks.due("what lies ahead goes on", x.ending(), -1);
        Checks.due("what lies ahead goes on", x.will(30, 0), 2);
        x.undo();
        Checks.due("what lies ahead goes on", x.ending(), 2);
        Checks.due("what lies ahead goes on", x.worldsAt(30), 1);
        x.undo();
        Checks.due("one undone: 998", x.about(3), 998);
        Checks.due("one more again", x.morning(), 0);
        Checks.due("not two", x.morning(), -1);
    }

    // ------------------------------------------------------------ other acts

    private static void measuring() {
        Doc.terms("ACTS: a MORNING; a MEASURING (just the WORLDS with the TRUE SIGN stay POSSIBLE);");
        Doc.says(11, "A MEASURING: how many WORLDS are POSSIBLE then. (An ACT.)");
        for (int k = 1; k <= 6; k++) {
            StinkhornParish x = Checks.told(Parishes.apart(6, Parishes.all(k)));
            int like = 0;
            for (int w = 0; w < 64; w++) like += Integer.bitCount(w) == k ? 1 : 0;
            Checks.due("of like signs", x.measure(), like);
            Checks.due("once more", x.measure(), like);
            Checks.due("both are acts", x.about(5), 2);
            x.undo();
            x.undo();
            Checks.due("undone", x.worlds(), 63);
        }
        Checks.due("all stay", Checks.told(Parishes.apart(6, 5) + "sign 1;").measure(), 64);
        Checks.due("one stays", Checks.told(Parishes.apart(6, 5) + "sign many=2 and first=0 and last=2;").measure(), 1);
        Checks.due("of nobody", new StinkhornParish().measure(), 1);
        // Above 0 in both, but not the same.
        Checks.due("the sign, not whether it is up", Checks.told(Parishes.apart(1, 1) + "sign many+1;").measure(), 1);
        StinkhornParish pegged = Checks.told(Parishes.apart(3, 3));
        pegged.peg(2);
        Checks.due("of those that are left", pegged.measure(), 1);
    }

    private static void asking() {
        Doc.terms("an ASKING of one, before all, whether he KNOWS that he is a KEEPER (just those WORLDS stay in which his answer is that of the TRUE one);");
        Doc.says(12, "An ASKING: 1 if he KNOWS it, else 0");
        Doc.says(12, "(An ACT.)");
        StinkhornParish x = Checks.told(Parishes.full(3, 1));
        Checks.due("he knows it", x.ask(0), 1);
        Checks.due("in that world alone", x.worlds(), 1);
        Checks.due("an act", x.about(5), 1);
        Checks.due("asked, not owned", x.about(2), 0);
        Checks.due("no morning", x.about(3), 0);
        x.undo();
        Checks.due("he does not", x.ask(2), 0);
        Checks.due("not in world 4", x.possible(4), 0);
        Checks.due("but in all others", x.worlds(), 6);
        x.undo();
        Checks.due("undone", x.worlds(), 7);
        Checks.due("who is none does not know that he is one", Checks.told("person a;").ask(0), 0);
        Checks.due("bearing it is nothing here", Checks.told("person a keeps bears 9;").ask(0), 1);
        Doc.says(12, "NONE, doing nothing, if there is none such.");
        for (int p : new int[] {-1, 3, 4, 6, MIN, MAX}) {
            Twins.unmoved("ask " + p, Twins::eventful, y -> y.ask(p), -1);
            Checks.due("ask " + p, new StinkhornParish().ask(p), -1);
        }
        for (int n = 1; n <= 6; n++) {
            Checks.due("the last one of " + n, Checks.told(Parishes.apart(n, 0) + "sign 1;").ask(n - 1), 0);
            Checks.due("one more", Checks.told(Parishes.apart(n, 0) + "sign 1;").ask(n), -1);
        }
    }

    private static void pegging() {
        Doc.terms("a PEG: before all it is shown whether one is a KEEPER (just those WORLDS stay that tell the same of him);");
        Doc.says(13, "A PEG: 1 if he is a KEEPER, else 0");
        Doc.says(13, "(An ACT.)");
        for (int n = 1; n <= 6; n++) {
            StinkhornParish x = Checks.told(Parishes.apart(n, 1 << n - 1) + "sign 1;");
            Checks.due("a keeper", x.peg(n - 1), 1);
            Checks.due("half of them stay", x.worlds(), 1 << n - 1);
            Checks.due("not the other ones", x.possible(0), 0);
            Checks.due("shown again", x.peg(n - 1), 1);
            Checks.due("as many stay", x.worlds(), 1 << n - 1);
            Checks.due("acts", x.about(5), 2);
            if (n > 1) Checks.due("none", x.peg(0), 0);
            if (n > 1) Checks.due("a quarter", x.worlds(), 1 << n - 2);
            Checks.due("nobody", x.peg(n), -1);
        }
        Doc.says(13, "NONE, doing nothing, if there is none such.");
        for (int p : new int[] {-1, 3, 4, 6, MIN, MAX}) {
            Twins.unmoved("peg " + p, Twins::eventful, y -> y.peg(p), -1);
            Checks.due("peg " + p, new StinkhornParish().peg(p), -1);
        }
    }

    private static void whispering() {
        Doc.terms("a WHISPER: one knows of another one from now on (all know that he does, not what).");
        Doc.says(14, "A WHISPER: of how many he knows then");
        Doc.says(14, "(An ACT.)");
        StinkhornParish x = Checks.told(Parishes.apart(6, 0) + "sign 1;");
        int acts = 0;
        for (int p = 0; p < 6; p++) {
            int of = 0;
            for (int o = 5; o >= 0; o--) {
                if (o == p) continue;
                of++;
                acts++;
                Checks.due("whisper " + p + " " + o, x.whisper(p, o), of);
                Checks.due("whisper again", x.whisper(p, o), -1);
                Checks.due("acts", x.about(5), acts);
            }
            Checks.due("knows of all others", x.person(p, 3), 63 ^ 1 << p);
        }
        Checks.due("no world goes", x.worlds(), 64);
        for (int i = 0; i < 30; i++) Checks.due("undo", x.undo(), true);
        for (int p = 0; p < 6; p++) Checks.due("of nobody again", x.person(p, 3), 0);
        // That b knows of a now is known to all: a silent b tells a what he is.
        StinkhornParish y = Checks.told("person a keeps;person b keeps;knows a b;");
        Checks.due("never", y.ending(), -1);
        y.whisper(1, 0);
        Checks.due("on the second morning", y.ending(), 2);
        Doc.says(14, "NONE, doing nothing, if he knows of that one, both are one, or one can't be.");
        int[][] refused = {{0, 1}, {1, 0}, {2, 0}, {0, 2}, {0, 0}, {2, 2}, {-1, 0}, {3, 0}, {0, -1}, {0, 3}, {3, 3}, {-1, -1}, {MIN, 0}, {0, MAX}, {32, 1}, {1, 32}};
        for (int[] r : refused) Twins.unmoved("whisper " + r[0] + " " + r[1], Twins::eventful, z -> z.whisper(r[0], r[1]), -1);
        Checks.due("of nobody", new StinkhornParish().whisper(0, 1), -1);
        Checks.due("of one", Checks.told("person a;").whisper(0, 0), -1);
        for (int n = 2; n <= 6; n++) {
            Checks.due("to the last one", Checks.told(Parishes.apart(n, 0)).whisper(n - 1, 0), 1);
            Checks.due("of the last one", Checks.told(Parishes.apart(n, 0)).whisper(0, n - 1), 1);
            Checks.due("to one more", Checks.told(Parishes.apart(n, 0)).whisper(n, 0), -1);
            Checks.due("of one more", Checks.told(Parishes.apart(n, 0)).whisper(0, n), -1);
        }
    }

    // ------------------------------------------------------------ undo and redo

    private static void undoing() {
        Doc.terms("UNDO takes back the latest ACT that was not, REDO does that again which was taken back last (till another ACT);");
        Doc.says(15, "UNDO: true");
        Doc.says(16, "REDO: true");
        StinkhornParish x = Checks.told(Parishes.apart(4, 3) + "sign 1;");
        x.peg(0);
        x.whisper(2, 1);
        x.morning();
        x.peg(1);
        int[] worlds = {16, 8, 8, 8, 4};
        int[] knows = {0, 0, 2, 2, 2};
        int[] gone = {0, 0, 0, 1, 1};
        for (int i = 3; i >= 0; i--) {
            Checks.due("undo", x.undo(), true);
            stands(x, i, worlds[i], knows[i], gone[i]);
        }
        Checks.due("no more", x.undo(), false);
        stands(x, 0, 16, 0, 0);
        for (int i = 1; i <= 4; i++) {
            Checks.due("redo", x.redo(), true);
            stands(x, i, worlds[i], knows[i], gone[i]);
        }
        Checks.due("no more", x.redo(), false);
        stands(x, 4, 4, 2, 1);
        for (int kind = 0; kind < 5; kind++) anotherAct(kind);
        Doc.says(15, "false if there is none.");
        Twins.unmoved("undo of nothing", y -> { }, y -> Twins.truth(y.undo()), 0);
        Twins.unmoved("undo of nothing more", y -> { Twins.eventful(y); for (int i = 0; i < 3; i++) y.undo(); }, y -> Twins.truth(y.undo()), 0);
        Twins.unmoved("undo behind a new parish", y -> { Twins.eventful(y); y.parish(); }, y -> Twins.truth(y.undo()), 0);
        Twins.unmoved("undo behind an image", y -> { Twins.eventful(y); y.back(0); }, y -> Twins.truth(y.undo()), 0);
        Doc.says(16, "false if there is none.");
        Twins.unmoved("redo of nothing", y -> { }, y -> Twins.truth(y.redo()), 0);
        Twins.unmoved("redo of nothing more", y -> { Twins.eventful(y); y.redo(); }, y -> Twins.truth(y.redo()), 0);
        Twins.unmoved("redo behind another act", y -> { Twins.eventful(y); y.peg(0); }, y -> Twins.truth(y.redo()), 0);
        Twins.unmoved("redo behind an image", y -> { Twins.eventful(y); y.back(1); }, y -> Twins.truth(y.redo()), 0);
        Twins.unmoved("redo of a full one", Twins::full, y -> Twins.truth(y.redo()), 0);
        Twins.unmoved("undo and redo", Twins::eventful, y -> Twins.truth(y.undo() && y.redo()), 1);
        Twins.unmoved("redo and undo", Twins::eventful, y -> Twins.truth(y.redo() && y.undo()), 1);
    }

    private static void stands(StinkhornParish x, int acts, int worlds, int knows, int gone) {
        Checks.due("acts", x.about(5), acts);
        Checks.due("taken back", x.about(6), 4 - acts);
        Checks.due("worlds", x.worlds(), worlds);
        Checks.due("knows of", x.person(2, 3), knows);
        Checks.due("gone by", x.about(3), gone);
    }

    private static void anotherAct(int kind) {
        StinkhornParish x = Checks.told(Parishes.apart(3, 1) + "sign 1;");
        x.peg(0);
        x.peg(1);
        x.undo();
        Checks.due("one to be redone", x.about(6), 1);
        switch (kind) {
            case 0: x.morning(); break;
            case 1: x.measure(); break;
            case 2: x.ask(0); break;
            case 3: x.peg(0); break;
            default: x.whisper(0, 1); break;
        }
        Checks.due("another act, kind " + kind, x.about(6), 0);
        Checks.due("redo", x.redo(), false);
        Checks.due("two acts", x.about(5), 2);
    }

    private static void keptActs() {
        Doc.terms("40 at most are kept, the oldest go.");
        for (int acts : new int[] {0, 1, 38, 39, 40, 41, 42, 79, 80, 81, 121}) {
            StinkhornParish x = new StinkhornParish();
            for (int i = 0; i < acts; i++) x.morning();
            int kept = Math.min(acts, 40);
            Checks.due("kept of " + acts, x.about(5), kept);
            int undone = 0;
            while (undone < 50 && x.undo()) undone++;
            Checks.due("undone of " + acts, undone, kept);
            Checks.due("back to", x.about(3), acts - kept);
            Checks.due("taken back", x.about(6), kept);
            Checks.due("none kept", x.about(5), 0);
            int redone = 0;
            while (redone < 50 && x.redo()) redone++;
            Checks.due("redone of " + acts, redone, kept);
            Checks.due("on to", x.about(3), acts);
            Checks.due("kept again", x.about(5), kept);
            Checks.due("none taken back", x.about(6), 0);
            x.morning();
            Checks.due("one more", x.about(5), Math.min(acts + 1, 40));
            x.undo();
            Checks.due("the one", x.about(3), acts);
        }
        StinkhornParish x = new StinkhornParish();
        for (int i = 0; i < 60; i++) x.morning();
        for (int i = 0; i < 15; i++) x.undo();
        for (int i = 0; i < 5; i++) x.morning();
        Checks.due("25 and 5", x.about(5), 30);
        Checks.due("45 and 5", x.about(3), 50);
        for (int i = 0; i < 12; i++) x.morning();
        Checks.due("forty", x.about(5), 40);
        int undone = 0;
        while (undone < 50 && x.undo()) undone++;
        Checks.due("forty", undone, 40);
        Checks.due("62 without 40", x.about(3), 22);
    }

    // ------------------------------------------------------------ images

    private static void images() {
        Doc.says(60, "WORLDS, who knows of whom, who has OWNED, the morning, the SEED are kept in a BOX 0 .. 2: the morning");
        Doc.says(61, "All is as it was kept (no ACTS are kept then): the morning");
        StinkhornParish x = Checks.told(Parishes.full(2, 1) + "person c;draw 9;");
        Checks.due("nine without an end", x.tale(1), 9);
        Checks.due("image 0", x.image(0), 0);
        x.whisper(2, 0);
        x.whisper(0, 2);
        x.morning();
        Checks.due("image 1", x.image(1), 1);
        int seed = x.about(4);
        x.peg(1);
        x.morning();
        x.undo();
        Checks.due("image 2", x.image(2), 1);
        x.seen(1, 0, true);
        x.later(3);
        int[][] due = {{0, 7, 0, 2, 9}, {1, 1, 1, 6, seed}, {1, 1, 1, 6, seed}};
        for (int box : new int[] {2, 0, 1, 0, 2}) {
            x.peg(0);
            x.peg(1);
            x.undo();
            Checks.due("back " + box, x.back(box), due[box][0]);
            Checks.due("morning", x.about(3), due[box][0]);
            Checks.due("worlds", x.worlds(), due[box][1]);
            Checks.due("owned", x.about(2), due[box][2]);
            Checks.due("knows of", x.person(0, 3), due[box][3]);
            Checks.due("seed", x.about(4), due[box][4]);
            Checks.due("no acts", x.about(5), 0);
            Checks.due("none taken back", x.about(6), 0);
            Checks.due("what is seen stays", x.about(7), 1);
            Checks.due("the time stays", x.about(8), 3);
            Checks.due("what lies there stays", x.about(12), 9);
        }
        x.morning();
        Checks.due("the box is kept anew", x.image(2), 2);
        x.morning();
        Checks.due("back there", x.back(2), 2);
        Checks.due("the other one stays", x.back(1), 1);
        Doc.says(60, "NONE if there is none such.");
        Doc.says(61, "NONE, doing nothing, if nothing was.");
        for (int box : new int[] {-1, 3, 4, MIN, MAX}) {
            Twins.unmoved("image " + box, Twins::eventful, y -> y.image(box), -1);
            Twins.unmoved("back " + box, Twins::eventful, y -> y.back(box), -1);
        }
        Twins.unmoved("back of an empty box", Twins::eventful, y -> y.back(2), -1);
        for (int box = 0; box < 3; box++) {
            int which = box;
            Twins.unmoved("back of a new one", y -> { }, y -> y.back(which), -1);
            Twins.unmoved("back of a new parish", y -> { Twins.eventful(y); y.image(which); y.parish(); }, y -> y.back(which), -1);
        }
        // An image is no act: what was taken back can be done again.
        StinkhornParish z = new StinkhornParish();
        z.morning();
        z.undo();
        z.image(0);
        Checks.due("still there", z.about(6), 1);
        Checks.due("redo", z.redo(), true);
    }

    private static void about() {
        Doc.says(62, "What 0: PEOPLE, 1: the TRUE WORLD, 2: who has OWNED, as bits, 3: the morning, 4: the SEED, 5: ACTS that can be undone, 6: redone, "
            + "7: what is SEEN, 8: the TIME, 9: bytes on the TAPE, 10: units, 11: fog in 100, 12: numbers that lie there.");
        StinkhornParish x = Checks.told(Parishes.full(2, 1) + "person c;sign (many)*2;fog 5;draw 3;");
        x.morning();
        x.morning();
        x.morning();
        x.undo();
        x.undo();
        x.seen(1, 1, true);
        x.seen(1, 2, true);
        x.seen(1, 0, true);
        x.untell(1);
        x.later(7);
        x.feed(0, 0, 0, 0, 0);
        x.end(19);
        x.tale(3);
        int[] due = {3, 1, x.about(2), 1, 482, 1, 2, 3, 7, 19, 3, 5, 9};
        Checks.due("owned, as c is not known of", x.about(2), 0);
        for (int what = 0; what < due.length; what++) Checks.due("about " + what, x.about(what), due[what]);
        Doc.says(62, "NONE for another what.");
        for (int what : new int[] {-1, 13, 14, MIN, MAX}) {
            Checks.due("about " + what, x.about(what), -1);
            Twins.unmoved("about " + what, Twins::eventful, y -> y.about(what), -1);
        }
    }
}
