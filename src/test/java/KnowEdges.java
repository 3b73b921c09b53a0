/** The edges of what is known now: by one, by all, of how many worlds. */
final class KnowEdges {
    private static final int MIN = Integer.MIN_VALUE;
    private static final int MAX = Integer.MAX_VALUE;

    interface OfOne { int of(StinkhornParish x, int person); }

    interface OfTwo { int of(StinkhornParish x, int person, int other); }

    private KnowEdges() { }

    static void run() {
        knows();
        knowsIn();
        depth();
        common();
        open();
        thinks();
        wronged();
        settled();
        wisest();
        talked();
        reach();
        least();
        suspected();
        law();
        bet();
        shared();
        parts();
        alike();
        quiet();
        unsure();
    }

    /** One who is not there, in parishes of each size, with the answer that is due then; nothing is done. */
    static void noSuchOne(String call, OfOne asked, int due) {
        for (int n = 0; n <= 6; n++) {
            StinkhornParish x = Checks.told(Parishes.full(n, Parishes.all(n)));
            for (int p : new int[] {-1, n, n + 1, 32, 64, MIN, MAX}) Checks.due(call + " " + p + " of " + n, asked.of(x, p), due);
        }
        for (int p : new int[] {-1, 3, 4, MIN, MAX}) Twins.unmoved(call + " " + p, Twins::eventful, x -> asked.of(x, p), due);
        for (int p = 0; p < 3; p++) still(call + " " + p, asked, p);
    }

    private static void still(String call, OfOne asked, int person) {
        StinkhornParish x = new StinkhornParish();
        Twins.eventful(x);
        Twins.unmoved(call, Twins::eventful, y -> asked.of(y, person), asked.of(x, person));
    }

    static void noSuchTwo(String call, OfTwo asked, int due) {
        noSuchOne(call + " and 0", (x, p) -> asked.of(x, p, 0), due);
        noSuchOne(call + " 0 and", (x, p) -> asked.of(x, 0, p), due);
        noSuchOne(call + " both", (x, p) -> asked.of(x, p, p), due);
    }

    private static void knows() {
        Doc.says(17, "What one KNOWS (in the TRUE WORLD) of another one, or of himself: 1 he is a KEEPER, 0 he is none, -1 neither");
        for (int n = 1; n <= 6; n++) {
            for (int keepers : new int[] {0, 1, 1 << n - 1, Parishes.all(n)}) {
                StinkhornParish full = Checks.told(Parishes.full(n, keepers));
                StinkhornParish apart = Checks.told(Parishes.apart(n, keepers));
                int many = Integer.bitCount(keepers);
                for (int p = 0; p < n; p++) {
                    for (int o = 0; o < n; o++) {
                        int so = keepers >> o & 1;
                        int own = many == 0 || many == 1 && so == 1 ? so : -1;
                        Checks.due("knows " + p + " " + o, full.knows(p, o), p == o ? own : so);
                        Checks.due("apart " + p + " " + o, apart.knows(p, o), many == 0 || n == 1 ? so : -1);
                    }
                }
            }
        }
        Doc.says(17, "-2 if one can't be.");
        noSuchTwo("knows", (x, p, o) -> x.knows(p, o), -2);
    }

    private static void knowsIn() {
        Doc.says(18, "What he KNOWS so in a WORLD that is POSSIBLE");
        for (int n = 1; n <= 3; n++) {
            StinkhornParish x = Checks.told(Parishes.full(n, Parishes.all(n)));
            for (int w = 1; w < 1 << n; w++) {
                for (int p = 0; p < n; p++) {
                    for (int o = 0; o < n; o++) Checks.due("in " + w + " " + p + " " + o, x.knowsIn(w, p, o), p != o ? w >> o & 1 : w == 1 << p ? 1 : -1);
                }
            }
        }
        StinkhornParish six = Checks.told(Parishes.full(6, 1) + "sign 1;");
        Checks.due("the last world", six.knowsIn(63, 5, 0), 1);
        Checks.due("the last world", six.knowsIn(63, 5, 5), -1);
        Checks.due("the first world", six.knowsIn(0, 5, 0), 0);
        Doc.says(18, "-2 if one can't be.");
        noSuchTwo("knowsIn", (x, p, o) -> x.knowsIn(x.about(1), p, o), -2);
        for (int n = 1; n <= 6; n++) {
            StinkhornParish x = Checks.told(Parishes.full(n, 1));
            for (int w : new int[] {-1, 0, 1 << n, 64, 65, MIN, MAX}) Checks.due("in " + w, x.knowsIn(w, 0, 0), -2);
            x.morning();
            Checks.due("not possible any more", x.knowsIn(n == 1 ? 0 : 2, 0, 0), -2);
            Checks.due("possible still", x.knowsIn(1, 0, 0), 1);
        }
        for (int w : new int[] {-1, 0, 4, 8, MAX}) Twins.unmoved("knowsIn " + w, Twins::eventful, x -> x.knowsIn(w, 0, 0), -2);
    }

    // ------------------------------------------------------------ of all

    /** The true worlds of Parishes.row by which the depth of f is 0, 1, 2 and so on; more than 9 in the end. */
    private static final int[] TRUTHS = {38, 44, 40, 42, 58, 62, 63, 61, 57, 33, 35, 37, 51};

    private static void depth() {
        Doc.terms("DEPTH of a KEEPER (in the TRUE WORLD): so many times it is so that all KNOW that all KNOW, and so on, that he is one (0: he is; not all KNOW it).");
        Doc.says(19, "DEPTH (0 .. 9, 9 of more, too)");
        Checks.due("all know it of him, but not all know that", Checks.told(Parishes.full(2, 1)).depth(0), 1);
        for (int n = 2; n <= 6; n++) {
            Checks.due("he does not know it", Checks.told(Parishes.full(n, 3)).depth(1), 0);
            Checks.due("nobody knows it", Checks.told(Parishes.apart(n, 1 << n - 1)).depth(n - 1), 0);
            StinkhornParish shown = Checks.told(Parishes.apart(n, 1 << n - 1));
            shown.peg(n - 1);
            Checks.due("shown before all", shown.depth(n - 1), 9);
        }
        Checks.due("one alone", Checks.told("person a keeps;").depth(0), 9);
        for (int i = 0; i < TRUTHS.length; i++) Checks.due("so many times, or more than 9", Checks.told(Parishes.row(TRUTHS[i])).depth(5), Math.min(i, 9));
        Doc.says(19, "NONE if he is no KEEPER, or there is none such.");
        noSuchOne("depth", (x, p) -> x.depth(p), -1);
        for (int n = 1; n <= 6; n++) {
            Checks.due("no keeper", Checks.told(Parishes.full(n, 0)).depth(n - 1), -1);
            Checks.due("no keeper", Checks.told(Parishes.full(n, Parishes.all(n) - 1)).depth(0), -1);
        }
    }

    private static void common() {
        Doc.terms("COMMON are those of whom it is so whatever the number of times.");
        Doc.says(20, "COMMON, as bits.");
        Checks.due("nobody", new StinkhornParish().common(), 0);
        for (int n = 2; n <= 6; n++) {
            // Each knows at once who the one is: the other worlds do not come into it.
            Checks.due("whatever is so in worlds that nobody takes", Checks.told(Parishes.full(n, 1 << n - 1) + "sign many=1;").common(), 1 << n - 1);
        }
        for (int truth : TRUTHS) Checks.due("not whatever the number", Checks.told(Parishes.row(truth)).common() & 32, 0);
        for (int n = 1; n <= 6; n++) {
            StinkhornParish x = Checks.told(Parishes.apart(n, Parishes.all(n)) + "sign 1;");
            int shown = 0;
            for (int p = n - 1; p >= 0; p--) {
                Checks.due("shown before all", x.common(), shown);
                x.peg(p);
                shown |= 1 << p;
            }
            Checks.due("all of them", x.common(), shown);
            Checks.due("none of them keeps", Checks.told(Parishes.full(n, 0)).common(), 0);
            Checks.due("behind it all", ended(n).common(), Parishes.all(n));
        }
    }

    private static StinkhornParish ended(int n) {
        StinkhornParish x = Checks.told(Parishes.full(n, Parishes.all(n)));
        for (int i = 0; i < n; i++) x.morning();
        return x;
    }

    private static void open() {
        Doc.terms("OPEN: how many WORLDS one takes in the TRUE one.");
        Doc.says(21, "OPEN");
        for (int n = 1; n <= 6; n++) {
            Checks.due("all", Checks.told(Parishes.apart(n, 1) + "sign 1;").open(n - 1), 1 << n);
            Checks.due("all but one", Checks.told(Parishes.apart(n, 1)).open(n - 1), (1 << n) - 1);
            Checks.due("two", Checks.told(Parishes.full(n, 1) + "sign 1;").open(n - 1), 2);
            Checks.due("one", Checks.told(Parishes.full(n, 1)).open(0), 1);
        }
        Doc.says(21, "NONE if there is none such.");
        noSuchOne("open", (x, p) -> x.open(p), -1);
    }

    private static void thinks() {
        Doc.terms("THINKS: WORLDS that one thinks another one may take: all that the other one takes in some WORLD that he takes himself.");
        Doc.says(30, "THINKS: how many WORLDS (both may be one)");
        for (int n = 2; n <= 6; n++) {
            StinkhornParish x = Checks.told(Parishes.full(n, 1) + "sign 1;");
            Checks.due("two by two", x.thinks(0, n - 1), 4);
            Checks.due("himself", x.thinks(n - 1, n - 1), 2);
            StinkhornParish y = Checks.told(Parishes.apart(n, 1));
            Checks.due("all", y.thinks(n - 1, 0), (1 << n) - 1);
            StinkhornParish one = Checks.told(Parishes.full(n, 1));
            Checks.due("he knows all; the other one takes two", one.thinks(0, 1), 2);
            Checks.due("two, and of one of these two more", one.thinks(1, 0), 3);
        }
        Doc.says(30, "NONE if one can't be.");
        noSuchTwo("thinks", (x, p, o) -> x.thinks(p, o), -1);
    }

    private static void wronged() {
        Doc.terms("WRONGED: who is no KEEPER (TRUE), and somebody else thinks it possible that he is one.");
        Doc.says(31, "WRONGED, as bits.");
        Checks.due("nobody", new StinkhornParish().wronged(), 0);
        Checks.due("himself alone", Checks.told("person a;sign 1;").wronged(), 0);
        for (int n = 2; n <= 6; n++) {
            Checks.due("all but the keeper", Checks.told(Parishes.apart(n, 1)).wronged(), Parishes.all(n) - 1);
            Checks.due("all", Checks.told(Parishes.apart(n, 0) + "sign 1;").wronged(), Parishes.all(n));
            Checks.due("all keep", Checks.told(Parishes.apart(n, Parishes.all(n))).wronged(), 0);
            Checks.due("no others think it", Checks.told(Parishes.full(n, 1)).wronged(), 0);
            Checks.due("no others think it", Checks.told(Parishes.full(n, 0) + "sign 1;").wronged(), 0);
        }
        // The last one alone does not know of the first one.
        Checks.due("one thinks it", Checks.told(Parishes.full(3, 2).replace("knows c a;", "") + "sign 1;").wronged(), 1);
    }

    private static void settled() {
        Doc.terms("SETTLED: of whom all (they themselves, too; in the TRUE WORLD) KNOW whether they are KEEPERS.");
        Doc.says(32, "SETTLED, as bits.");
        Checks.due("nobody", new StinkhornParish().settled(), 0);
        for (int n = 1; n <= 6; n++) {
            Checks.due("the keeper", Checks.told(Parishes.full(n, 1)).settled(), 1);
            Checks.due("all", Checks.told(Parishes.full(n, 0)).settled(), Parishes.all(n));
            Checks.due("they themselves do not", Checks.told(Parishes.full(n, 1) + "sign 1;").settled(), 0);
            Checks.due("behind it all", ended(n).settled(), Parishes.all(n));
            StinkhornParish x = Checks.told(Parishes.apart(n, 0) + "sign 1;");
            x.peg(n - 1);
            Checks.due("who was shown, no keeper", x.settled(), 1 << n - 1);
        }
        Checks.due("he himself knows it, the other one does not", Checks.told("person a keeps;person b;knows a b;sign many=1;").settled(), 0);
    }

    private static void wisest() {
        Doc.says(33, "The one who takes the fewest WORLDS (in the TRUE one)");
        for (int n = 1; n <= 6; n++) Checks.due("the keeper", Checks.told(Parishes.full(n, 1 << n - 1)).wisest(), n - 1);
        Doc.says(33, "of like ones the first");
        for (int n = 1; n <= 6; n++) {
            Checks.due("all alike", Checks.told(Parishes.apart(n, 0)).wisest(), 0);
            Checks.due("all alike", Checks.told(Parishes.full(n, 0) + "sign 1;").wisest(), 0);
        }
        StinkhornParish x = Checks.told(Parishes.apart(4, 0) + "sign 1;");
        x.whisper(3, 0);
        Checks.due("he knows more", x.wisest(), 3);
        x.whisper(2, 0);
        Checks.due("the first of the two", x.wisest(), 2);
        Doc.says(33, "NONE without PEOPLE.");
        Checks.due("nobody", new StinkhornParish().wisest(), -1);
    }

    private static void talked() {
        Doc.says(34, "The one of whom most others know");
        StinkhornParish x = Checks.told(Parishes.apart(6, 0));
        for (int o = 0; o < 6; o++) {
            for (int p = 5; p >= 0; p--) {
                if (p == o) continue;
                x.whisper(p, o);
                // All before him are known to five: only the fifth one makes them like ones.
                Checks.due("known to most", x.talked(), 0);
            }
        }
        StinkhornParish y = Checks.told(Parishes.apart(6, 0));
        y.whisper(0, 5);
        Checks.due("one", y.talked(), 5);
        y.whisper(1, 4);
        Doc.says(34, "of like ones the first");
        Checks.due("like ones", y.talked(), 4);
        y.whisper(2, 5);
        Checks.due("two", y.talked(), 5);
        for (int n = 1; n <= 6; n++) Checks.due("like ones", Checks.told(Parishes.apart(n, 0)).talked(), 0);
        Doc.says(34, "NONE without PEOPLE.");
        Checks.due("nobody", new StinkhornParish().talked(), -1);
    }

    private static void reach() {
        Doc.says(35, "By how few steps one comes from one of the PEOPLE to another one, each from one to somebody who knows of him (0: both are one)");
        StinkhornParish row = Checks.told(Parishes.apart(6, 0) + "knows b a;knows c b;knows d c;knows e d;knows f e;");
        for (int p = 0; p < 6; p++) {
            for (int o = 0; o < 6; o++) Checks.due("reach " + p + " " + o, row.reach(p, o), o < p ? -1 : o - p);
        }
        row.whisper(5, 2);
        Checks.due("a shorter way", row.reach(0, 5), 3);
        row.whisper(0, 5);
        Checks.due("round about", row.reach(1, 0), 3);
        Checks.due("both are one", row.reach(1, 1), 0);
        StinkhornParish full = Checks.told(Parishes.full(6, 0));
        for (int o = 0; o < 6; o++) Checks.due("one step", full.reach(5, o), o == 5 ? 0 : 1);
        Doc.says(35, "NONE if not at all, or one can't be.");
        for (int p = 0; p < 6; p++) {
            for (int o = 0; o < 6; o++) Checks.due("not at all", Checks.told(Parishes.apart(6, 0)).reach(p, o), p == o ? 0 : -1);
        }
        noSuchTwo("reach", (x, p, o) -> x.reach(p, o), -1);
    }

    // ------------------------------------------------------------ how many worlds

    private static void least() {
        Doc.says(36, "The least WORLD that is POSSIBLE with n KEEPERS (0 .. 6)");
        for (int n = 0; n <= 6; n++) {
            StinkhornParish x = Checks.told(Parishes.apart(n, 0) + "sign 1;");
            for (int k = 0; k <= 6; k++) Checks.due("least " + k + " of " + n, x.least(k), k <= n ? (1 << k) - 1 : -1);
        }
        StinkhornParish x = Checks.told(Parishes.apart(6, 2) + "sign 1;");
        x.peg(0);
        x.peg(1);
        int[] due = {-1, 2, 6, 14, 30, 62, -1};
        for (int k = 0; k <= 6; k++) Checks.due("least " + k, x.least(k), due[k]);
        Doc.says(36, "NONE if there is none such.");
        Checks.due("none without any", Checks.told(Parishes.apart(6, 1)).least(0), -1);
        for (int k : new int[] {-1, 7, 8, 64, MIN, MAX}) {
            Checks.due("least " + k, Checks.told(Parishes.apart(6, 1) + "sign 1;").least(k), -1);
            Twins.unmoved("least " + k, Twins::eventful, y -> y.least(k), -1);
        }
    }

    private static void suspected() {
        Doc.says(37, "How many WORLDS that are POSSIBLE have him as a KEEPER");
        for (int n = 1; n <= 6; n++) {
            StinkhornParish x = Checks.told(Parishes.apart(n, 1));
            Checks.due("half of all", x.suspected(n - 1), 1 << n - 1);
            x.peg(n - 1);
            Checks.due("none, or all that is left", x.suspected(n - 1), n == 1 ? 1 : 0);
            Checks.due("no world", Checks.told(Parishes.apart(n, 0)).suspected(n - 1), 0);
        }
        Doc.says(37, "NONE if there is none such.");
        noSuchOne("suspected", (x, p) -> x.suspected(p), -1);
    }

    private static void law() {
        Doc.says(38, "How many would OWN in the TRUE WORLD on the next MORNING, if all bore n (0 .. 99)");
        StinkhornParish x = Checks.told("person a keeps bears 9;person b keeps;sign many>1;fog 100;");
        for (int gone = 0; gone <= 100; gone++) {
            Checks.due("law " + gone + " behind " + gone, x.law(gone), gone > 99 ? -1 : 2);
            Checks.due("law " + (gone + 1) + " behind " + gone, x.law(gone + 1), gone > 98 ? -1 : 0);
            x.morning();
        }
        Checks.due("law 0", x.law(0), 2);
        Checks.due("law 99", x.law(99), 2);
        for (int n = 1; n <= 6; n++) {
            Checks.due("all of them", Checks.told(Parishes.apart(n, Parishes.all(n)) + "sign many=people;").law(0), n);
            Checks.due("one", Checks.told(Parishes.full(n, 1)).law(0), 1);
            Checks.due("who is none does not own", Checks.told(Parishes.full(n, 0)).law(0), 0);
        }
        Checks.due("nobody", new StinkhornParish().law(0), 0);
        Doc.says(38, "NONE for another n.");
        for (int n : new int[] {-1, 100, 101, MIN, MAX}) {
            Checks.due("law " + n, Checks.told("person a keeps;").law(n), -1);
            Twins.unmoved("law " + n, Twins::eventful, y -> y.law(n), -1);
        }
    }

    private static void bet() {
        Doc.says(39, "How likely one takes it in the TRUE WORLD that another one, or he himself, is a KEEPER (all WORLDS that he takes are as likely): "
            + "the upper part (0), the lower part (1), in lowest terms (0 of 1)");
        for (int n = 1; n <= 6; n++) {
            fraction(Checks.told(Parishes.apart(n, 1)), n - 1, n - 1, 1 << n - 1, (1 << n) - 1);
            fraction(Checks.told(Parishes.apart(n, 1) + "sign 1;"), n - 1, 0, 1, 2);
            fraction(Checks.told(Parishes.full(n, 1)), 0, 0, 1, 1);
            fraction(Checks.told(Parishes.apart(n, 0)), 0, n - 1, 0, 1);
            if (n > 1) fraction(Checks.told(Parishes.full(n, 1)), 0, n - 1, 0, 1);
        }
        // Worlds with two of three: two of three of them have him; of four with two of them: half.
        fraction(Checks.told(Parishes.apart(3, 3) + "sign many=2;"), 0, 2, 2, 3);
        fraction(Checks.told(Parishes.apart(4, 3) + "sign many=2;"), 0, 2, 1, 2);
        fraction(Checks.told(Parishes.apart(6, 3) + "sign many=2;"), 0, 5, 1, 3);
        Doc.says(39, "NONE if one can't be.");
        noSuchTwo("bet", (x, p, o) -> x.bet(p, o, 0), -1);
        noSuchTwo("bet", (x, p, o) -> x.bet(p, o, 1), -1);
        for (int part : new int[] {-1, 2, MIN, MAX}) {
            Checks.due("part " + part, Checks.told("person a;").bet(0, 0, part), -1);
            Twins.unmoved("part " + part, Twins::eventful, y -> y.bet(0, 1, part), -1);
        }
    }

    private static void fraction(StinkhornParish x, int person, int other, int upper, int lower) {
        Checks.due("upper part", x.bet(person, other, 0), upper);
        Checks.due("lower part", x.bet(person, other, 1), lower);
    }

    private static void shared() {
        Doc.says(40, "In how many WORLDS that are POSSIBLE it is so n times (0 .. 9) that all KNOW that all KNOW, and so on, that he is a KEEPER (0 times: that he is one)");
        for (int n = 1; n <= 6; n++) {
            StinkhornParish x = Checks.told(Parishes.full(n, 1));
            Checks.due("0 times", x.shared(n - 1, 0), 1 << n - 1);
            for (int times = 1; times <= 9; times++) Checks.due(times + " times", x.shared(n - 1, times), n == 1 ? 1 : times == 1 ? 1 : 0);
            x.peg(0);
            for (int times = 0; times <= 9; times++) Checks.due("shown: " + times + " times", x.shared(0, times), 1 << n - 1);
        }
        StinkhornParish row = Checks.told(Parishes.row(TRUTHS[12]));
        for (int times = 0; times <= 9; times++) Checks.due("in a row: " + times + " times", row.shared(5, times), 13 - times);
        Doc.says(40, "NONE if one can't be.");
        noSuchOne("shared 0 times", (x, p) -> x.shared(p, 0), -1);
        noSuchOne("shared 9 times", (x, p) -> x.shared(p, 9), -1);
        for (int times : new int[] {-1, 10, 11, MIN, MAX}) {
            Checks.due("shared " + times, Checks.told("person a keeps;").shared(0, times), -1);
            Twins.unmoved("shared " + times, Twins::eventful, x -> x.shared(0, times), -1);
        }
    }

    private static void parts() {
        Doc.says(41, "Into how many parts one parts the WORLDS that are POSSIBLE (those that tell the same of all of whom he knows are one part)");
        for (int n = 1; n <= 6; n++) {
            Checks.due("by all others", Checks.told(Parishes.full(n, 1)).parts(n - 1), 1 << n - 1);
            Checks.due("by nobody", Checks.told(Parishes.apart(n, 1)).parts(n - 1), 1);
            Checks.due("one world", Checks.told(Parishes.full(n, 0)).parts(n - 1), 1);
            Checks.due("behind it all", ended(n).parts(0), 1);
        }
        Checks.due("by one", Checks.told("person a;person b;knows a b;sign 1;").parts(0), 2);
        Doc.says(41, "NONE if there is none such.");
        noSuchOne("parts", (x, p) -> x.parts(p), -1);
    }

    private static void alike() {
        Doc.says(42, "PEOPLE of whom two KNOW the same in the TRUE WORLD (both that they are KEEPERS, both that they are none, or both neither), as bits (both may be one: all then)");
        for (int n = 1; n <= 6; n++) {
            for (int keepers : new int[] {0, 1, Parishes.all(n)}) {
                StinkhornParish full = Checks.told(Parishes.full(n, keepers));
                StinkhornParish apart = Checks.told(Parishes.apart(n, keepers));
                for (int p = 0; p < n; p++) Checks.due("both are one", full.alike(p, p), Parishes.all(n));
                Checks.due("both know nothing, or all", apart.alike(0, n - 1), Parishes.all(n));
            }
            // The keeper knows all; the last one all but whether he is one himself.
            if (n > 1) Checks.due("all but the last one", Checks.told(Parishes.full(n, 1)).alike(0, n - 1), Parishes.all(n - 1));
            if (n > 1) Checks.due("all but these two", Checks.told(Parishes.full(n, 3)).alike(0, 1), Parishes.all(n) - 3);
        }
        Doc.says(42, "NONE if one can't be.");
        noSuchTwo("alike", (x, p, o) -> x.alike(p, o), -1);
    }

    private static void quiet() {
        Doc.says(46, "In how many WORLDS that are POSSIBLE nobody would OWN on the next MORNING.");
        Checks.due("nobody is there", new StinkhornParish().quiet(), 1);
        for (int n = 1; n <= 6; n++) {
            Checks.due("all but those of one keeper", Checks.told(Parishes.full(n, 1)).quiet(), (1 << n) - 1 - n);
            Checks.due("all", Checks.told(Parishes.full(n, 1) + "sign 1;").quiet(), 1 << n);
            Checks.due("none", ended(n).quiet(), 0);
        }
        StinkhornParish x = Checks.told("person a keeps bears 2;");
        Checks.due("he bears it", x.quiet(), 1);
        x.morning();
        Checks.due("he bears it", x.quiet(), 1);
        x.morning();
        Checks.due("no longer", x.quiet(), 0);
    }

    private static void unsure() {
        Doc.says(50, "PEOPLE who KNOW in the TRUE WORLD neither that they are KEEPERS themselves nor that they are none, as bits.");
        Checks.due("nobody is there", new StinkhornParish().unsure(), 0);
        for (int n = 1; n <= 6; n++) {
            Checks.due("all but the keeper", Checks.told(Parishes.full(n, 1)).unsure(), Parishes.all(n) - 1);
            Checks.due("all", Checks.told(Parishes.full(n, 1) + "sign 1;").unsure(), Parishes.all(n));
            Checks.due("none", Checks.told(Parishes.full(n, 0)).unsure(), 0);
            Checks.due("none", ended(n).unsure(), 0);
        }
    }
}
