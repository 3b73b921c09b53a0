/** The edges of what was seen: told, untold, known in two times, the next one to look at. */
final class SeenEdges {
    private static final int MIN = Integer.MIN_VALUE;
    private static final int MAX = Integer.MAX_VALUE;

    private SeenEdges() { }

    static void run() {
        told();
        numbers();
        untelling();
        times();
        twoTimes();
        fits();
        sure();
        next();
    }

    private static void told() {
        Doc.terms("of the parish as it was told, but for who keeps something, which is not known (the TRUE WORLD might be any; WORLDS at first by it, "
            + "nothing done, no fog): that on the so-manieth MORNING (1 .. 9) one OWNED, or did not (who OWNED already OWNS again).");
        // With k keepers all of them own from the k-th morning on; in world 0 nobody ever does.
        for (int truth : new int[] {0, 1, 7}) {
            for (int morning = 1; morning <= 9; morning++) {
                StinkhornParish x = Checks.told(Parishes.full(3, truth) + "fog 100;");
                Checks.due("its number", x.seen(morning, 0, true), 0);
                int due = morning == 1 ? 1 : morning == 2 ? 3 : 4;
                Checks.due("a owned on " + morning, x.fits(0), due);
                StinkhornParish y = Checks.told(Parishes.full(3, truth));
                y.seen(morning, 0, false);
                Checks.due("a did not own on " + morning, y.fits(0), 8 - due);
            }
        }
        StinkhornParish x = Checks.told("person a keeps;person b;knows a b;fog 100;");
        x.whisper(1, 0);
        x.peg(0);
        x.morning();
        x.seen(1, 1, true);
        Checks.due("as told b knows of nobody", x.fits(0), 0);
        // Borne for nine mornings: the ninth one is too early.
        StinkhornParish bears = Checks.told("person a keeps bears 9;person b bears 8;sign many=people;");
        bears.seen(9, 0, true);
        Checks.due("too early", bears.fits(0), 0);
        bears.untell(0);
        bears.seen(9, 1, true);
        Checks.due("on the last one", bears.fits(0), 1);
        bears.seen(8, 1, false);
        Checks.due("not on the one before", bears.fits(0), 1);
        // By another parish, in which the same ones own on other mornings.
        StinkhornParish anew = Checks.told(Parishes.full(3, 1));
        Checks.due("any", anew.fits(0), 8);
        anew.seen(1, 0, true);
        Checks.due("a alone", anew.fits(0), 1);
        Checks.tape(anew, Parishes.full(3, 1, " bears 1"));
        anew.parish();
        Checks.due("any again", anew.fits(0), 8);
        anew.seen(1, 0, true);
        Checks.due("nobody owns on the first one", anew.fits(0), 0);
        Checks.tape(anew, Parishes.apart(2, 1));
        anew.parish();
        Checks.due("any of two", anew.fits(0), 4);
        anew.seen(9, 0, true);
        Checks.due("nobody ever owns", anew.fits(0), 0);
        StinkhornParish acts = Checks.told(Parishes.full(2, 1));
        acts.seen(1, 0, true);
        acts.morning();
        acts.undo();
        Checks.due("no act", acts.about(5), 0);
        Checks.due("stays when acts are undone", acts.about(7), 1);
    }

    private static void numbers() {
        Doc.terms("==== 4. SEEN, 30 at most, ");
        Doc.says(54, "A SEEN (a MORNING 1 .. 9): its number");
        StinkhornParish x = Checks.told(Parishes.full(6, 63));
        for (int i = 0; i < 30; i++) {
            Checks.due("its number", x.seen(1 + i % 9, i % 6, i % 2 == 0), i);
            Checks.due("so many", x.about(7), i + 1);
        }
        Doc.says(54, "NONE, doing nothing, if one can't be, or there are 30.");
        Checks.due("the thirty-first", x.seen(1, 0, true), -1);
        Checks.due("so many still", x.about(7), 30);
        x.untell(0);
        x.untell(29);
        Checks.due("untold ones are of the thirty", x.seen(1, 0, true), -1);
        Checks.due("so many still", x.about(7), 30);
        for (int morning : new int[] {1, 9}) {
            for (boolean is : new boolean[] {true, false}) {
                for (int p : new int[] {0, 2}) Twins.unmoved("the thirty-first", Twins::full, y -> y.seen(morning, p, is), -1);
            }
        }
        for (int morning : new int[] {0, -1, 10, 11, MIN, MAX}) Twins.unmoved("on " + morning, Twins::eventful, y -> y.seen(morning, 0, true), -1);
        for (int p : new int[] {-1, 3, 4, 6, MIN, MAX}) Twins.unmoved("of " + p, Twins::eventful, y -> y.seen(1, p, false), -1);
        for (int n = 0; n <= 6; n++) {
            StinkhornParish y = Checks.told(Parishes.apart(n, 0));
            Checks.due("one more than " + n, y.seen(9, n, true), -1);
            Checks.due("none", y.about(7), 0);
            if (n > 0) Checks.due("the last one of " + n, y.seen(9, n - 1, true), 0);
        }
        StinkhornParish again = Checks.told(Parishes.full(2, 1));
        again.seen(1, 0, true);
        Checks.due("the same once more", again.seen(1, 0, true), 1);
        Checks.due("it fits as before", again.fits(0), 1);
    }

    private static void untelling() {
        Doc.says(55, "It is UNTOLD: true");
        Doc.says(55, "false if it is so already, or there is none such.");
        StinkhornParish x = Checks.told(Parishes.full(2, 1));
        Checks.due("none yet", x.untell(0), false);
        for (int i = 0; i < 30; i++) x.seen(1, 0, true);
        for (int i = 0; i < 30; i++) {
            Checks.due("untell " + i, x.untell(i), true);
            Checks.due("untell " + i + " again", x.untell(i), false);
        }
        Checks.due("untell 30", x.untell(30), false);
        Checks.due("nothing counts", x.fits(0), 4);
        for (int i : new int[] {-1, 0, 2, 3, 30, MIN, MAX}) Twins.unmoved("untell " + i, Twins::eventful, y -> Twins.truth(y.untell(i)), 0);
        StinkhornParish late = Checks.told(Parishes.full(2, 1));
        late.seen(1, 0, true);
        late.untell(0);
        late.later(10);
        Checks.due("untold already", late.untell(0), false);
        Checks.due("since then", late.fits(5), 4);
    }

    private static void times() {
        Doc.says(56, "So much later (0 .. 1000): the TIME");
        StinkhornParish x = new StinkhornParish();
        Checks.due("0", x.later(0), 0);
        Checks.due("1", x.later(1), 1);
        Checks.due("999", x.later(999), 1000);
        for (int i = 2; i <= 99; i++) Checks.due("1000", x.later(1000), 1000 * i);
        Checks.due("999", x.later(999), 99999);
        Doc.says(56, "NONE, doing nothing, for another number, or if it would be above 100,000.");
        Checks.due("two are too many", x.later(2), -1);
        Checks.due("1000 are too many", x.later(1000), -1);
        Checks.due("the time", x.about(8), 99999);
        Checks.due("0", x.later(0), 99999);
        Checks.due("the last one", x.later(1), 100000);
        Checks.due("no more", x.later(1), -1);
        Checks.due("no more", x.later(1000), -1);
        Checks.due("0 still", x.later(0), 100000);
        Checks.due("the time", x.about(8), 100000);
        Checks.due("seen at the last time", Checks.told("person a;").seen(1, 0, true), 0);
        for (int by : new int[] {-1, 1001, 1002, 100000, MIN, MAX}) Twins.unmoved("later " + by, Twins::eventful, y -> y.later(by), -1);
        for (int by : new int[] {1, 2, 1000}) Twins.unmoved("later " + by + " at the end", y -> { Twins.eventful(y); for (int i = 0; i < 99; i++) y.later(1000); y.later(995); }, y -> y.later(by), -1);
        Twins.unmoved("later 0", Twins::eventful, y -> y.later(0), 5);
    }

    private static void twoTimes() {
        Doc.terms("is TOLD at a TIME (0 at first, goes on), UNTOLD at a later one or the same,");
        Doc.terms("As known at k that counts that was TOLD at k or before, not UNTOLD at k or before.");
        StinkhornParish x = Checks.told(Parishes.full(2, 1));
        x.later(10);
        x.seen(1, 0, true);
        x.later(10);
        x.untell(0);
        x.later(10);
        for (int k = 0; k <= 40; k++) Checks.due("at " + k, x.fits(k), k >= 10 && k < 20 ? 1 : 4);
        for (int k : new int[] {MIN, -1, MAX}) Checks.due("at " + k, x.fits(k), 4);
        StinkhornParish y = Checks.told(Parishes.full(2, 1));
        y.seen(1, 0, true);
        Checks.due("told at 0, before", y.fits(-1), 4);
        Checks.due("told at 0", y.fits(0), 1);
        Checks.due("at any time behind", y.fits(MAX), 1);
        y.untell(0);
        for (int k = -1; k < 3; k++) Checks.due("told and untold at the same time", y.fits(k), 4);
        StinkhornParish last = Checks.told(Parishes.full(2, 1));
        for (int i = 0; i < 100; i++) last.later(1000);
        last.seen(1, 0, true);
        Checks.due("just before the last time", last.fits(99999), 4);
        Checks.due("at the last time", last.fits(100000), 1);
        Checks.due("behind it", last.fits(100001), 1);
        StinkhornParish kept = Checks.told(Parishes.full(2, 1));
        kept.later(7);
        Checks.tape(kept, Parishes.full(2, 1));
        kept.parish();
        kept.seen(1, 0, true);
        Checks.due("the time stays behind a new parish", kept.fits(6), 4);
        Checks.due("the time stays behind a new parish", kept.fits(7), 1);
    }

    private static void fits() {
        Doc.terms("FITS: TRUE WORLDS by which all that counts is so.");
        Doc.says(57, "FITS: how many.");
        for (int n = 0; n <= 6; n++) {
            StinkhornParish x = Checks.told(Parishes.full(n, 0));
            Checks.due("any of them", x.fits(0), 1 << n);
            for (int p = 0; p < n; p++) x.seen(n, p, true);
            Checks.due("all own on the " + n + "th: all, or just one of them", x.fits(0), 1);
            if (n > 0) x.seen(9, n - 1, false);
            Checks.due("none", x.fits(0), n == 0 ? 1 : 0);
        }
        StinkhornParish x = Checks.told(Parishes.full(6, 0));
        x.seen(5, 0, false);
        x.seen(6, 0, true);
        Checks.due("six of them", x.fits(0), 1);
        Twins.unmoved("fits", Twins::eventful, y -> y.fits(MIN), 8);
    }

    private static void sure() {
        Doc.terms("SURE of one: whether he is a KEEPER, if it is the same in all.");
        Doc.says(58, "SURE: 1, 0");
        Doc.says(58, "-2 if it is not the same in all");
        for (int n = 1; n <= 6; n++) {
            StinkhornParish x = Checks.told(Parishes.full(n, 0));
            for (int p = 0; p < n; p++) Checks.due("not the same", x.sure(p, 0), -2);
            x.seen(1, n - 1, true);
            for (int p = 0; p < n; p++) Checks.due("he alone", x.sure(p, 0), p == n - 1 ? 1 : 0);
            for (int p = 0; p < n; p++) Checks.due("not known before", x.sure(p, -1), -2);
        }
        Doc.says(58, "NONE if none FITS, or there is none such.");
        for (int n = 1; n <= 6; n++) {
            StinkhornParish x = Checks.told(Parishes.full(n, 0));
            x.seen(1, 0, true);
            x.seen(1, 0, false);
            for (int p = 0; p < n; p++) Checks.due("none fits", x.sure(p, 0), -1);
        }
        for (int k : new int[] {-1, 0, 5, MAX}) KnowEdges.noSuchOne("sure at " + k, (x, p) -> x.sure(p, k), -1);
    }

    private static void next() {
        Doc.terms("ASK for a MORNING: the one of whom to know whether he OWNED on it would leave the fewest of these at the most; of like ones the first.");
        Doc.says(59, "ASK (a MORNING 1 .. 9) what 0: the one, 1: how many are left at the most");
        for (int n = 1; n <= 6; n++) {
            StinkhornParish x = Checks.told(Parishes.full(n, 0));
            for (int morning = 1; morning <= 9; morning++) {
                Checks.due("like ones", x.next(morning, 0, 0), 0);
                int owns = 0;
                for (int w = 0; w < 1 << n; w++) owns += (w & 1) == 1 && Integer.bitCount(w) <= morning ? 1 : 0;
                Checks.due("left on " + morning, x.next(morning, 1, 0), Math.max(owns, (1 << n) - owns));
            }
            x.seen(9, 0, true);
            Checks.due("the next one", x.next(9, 0, 0), n == 1 ? 0 : 1);
            Checks.due("half of them", x.next(9, 1, 0), n == 1 ? 1 : 1 << n - 2);
            Checks.due("before that", x.next(9, 0, -1), 0);
        }
        StinkhornParish last = Checks.told("person a;person b;person c;knows c a;knows c b;");
        Checks.due("the last one alone ever owns", last.next(1, 0, 0), 2);
        Doc.says(59, "NONE if none FITS, without PEOPLE, or if one can't be.");
        StinkhornParish x = Checks.told(Parishes.full(2, 0));
        x.seen(1, 0, true);
        x.seen(1, 0, false);
        for (int what = 0; what < 2; what++) {
            int which = what;
            Checks.due("none fits", x.next(1, what, 0), -1);
            Checks.due("nobody", new StinkhornParish().next(1, what, 0), -1);
            for (int morning : new int[] {0, -1, 10, 11, MIN, MAX}) {
                Checks.due("on " + morning, Checks.told(Parishes.full(2, 0)).next(morning, what, 0), -1);
                Twins.unmoved("on " + morning, Twins::eventful, y -> y.next(morning, which, 0), -1);
            }
        }
        for (int what : new int[] {-1, 2, MIN, MAX}) {
            for (int morning : new int[] {1, 9}) Checks.due("what " + what, Checks.told(Parishes.full(2, 0)).next(morning, what, 0), -1);
            Twins.unmoved("what " + what, Twins::eventful, y -> y.next(1, what, 0), -1);
        }
    }
}
