/** The edges of what lies ahead: ends, groups, calls, hints, pins, fates, tales, pegs, spies, meetings, odds. */
final class AheadEdges {
    private static final int MIN = Integer.MIN_VALUE;
    private static final int MAX = Integer.MAX_VALUE;

    private AheadEdges() { }

    static void run() {
        nothingIsDone();
        ending();
        first();
        will();
        worldsAt();
        group();
        call();
        hint();
        pin();
        fate();
        latest();
        tale();
        pegs();
        spy();
        meeting();
        within();
        odds();
    }

    private static void notDone(String call, Twins.Call asked) {
        StinkhornParish x = new StinkhornParish();
        Twins.eventful(x);
        Twins.unmoved(call, Twins::eventful, asked, asked.on(x));
    }

    private static void nothingIsDone() {
        Doc.terms("==== 3. (By what is now; nothing is done; no fog, if not told otherwise. What lies ahead goes on beyond the last morning, too.)");
        notDone("ending", x -> x.ending());
        notDone("first", x -> x.first());
        notDone("will", x -> x.will(30, 1));
        notDone("will", x -> x.will(30, 0));
        notDone("worldsAt", x -> x.worldsAt(30));
        notDone("call", x -> x.call(1));
        notDone("hint", x -> x.hint(2));
        notDone("pin", x -> x.pin(1));
        notDone("group", x -> x.group(2, 1));
        notDone("thinks", x -> x.thinks(0, 2));
        notDone("wronged", x -> x.wronged());
        notDone("settled", x -> x.settled());
        notDone("wisest", x -> x.wisest());
        notDone("talked", x -> x.talked());
        notDone("common", x -> x.common());
        notDone("depth", x -> x.depth(0));
        notDone("latest", x -> x.latest());
        notDone("fate", x -> x.fate(3));
        notDone("quiet", x -> x.quiet());
        notDone("pegs", x -> x.pegs(9, 1));
        notDone("spy", x -> x.spy(0, 1));
        notDone("meeting", x -> x.meeting(2));
        notDone("unsure", x -> x.unsure());
        notDone("within", x -> x.within(1));
        notDone("odds", x -> x.odds(4, 1));
        for (String text : new String[] {Parishes.full(4, 7), Parishes.full(4, 7) + "fog 100;"}) {
            StinkhornParish x = Checks.told(text);
            Checks.due("no fog", x.ending(), 3);
            Checks.due("no fog", x.first(), 3);
            Checks.due("no fog", x.worldsAt(1), 11);
            Checks.due("no fog", x.within(1), 3);
            Checks.due("no fog", x.fate(15), 4);
            Checks.due("no fog", x.tale(15), 4);
            Checks.due("no fog", x.pegs(3, 0), 0);
            Checks.due("no fog", x.quiet(), 11);
            Checks.due("no fog", x.law(0), 0);
        }
    }

    private static void ending() {
        Doc.terms("END: behind how many MORNINGS all KEEPERS (TRUE) have OWNED first (0: they have).");
        Doc.says(22, "END (0 .. 30)");
        Checks.due("nobody", new StinkhornParish().ending(), 0);
        for (int n = 1; n <= 6; n++) {
            for (int k = 0; k <= n; k++) {
                StinkhornParish x = Checks.told(Parishes.full(n, Parishes.all(k)));
                for (int gone = 0; gone <= k + 1; gone++) {
                    Checks.due("end of " + k + " behind " + gone, x.ending(), Math.max(0, k - gone));
                    x.morning();
                }
            }
        }
        for (int bears = 0; bears <= 9; bears++) Checks.due("bears " + bears, Checks.told("person a keeps bears " + bears + ";").ending(), bears + 1);
        // The first has owned already, the second not yet: all of them count.
        StinkhornParish part = Checks.told("person a keeps;person b keeps bears 3;sign many>1;");
        part.morning();
        Checks.due("one of two has", part.about(2), 1);
        Checks.due("the other one then", part.ending(), 3);
        StinkhornParish far = Checks.told(Parishes.LONG);
        for (int gone = 0; gone <= 33; gone++) {
            Checks.due("end behind " + gone, far.ending(), in(32 - gone));
            far.morning();
        }
        Doc.says(22, "NONE if not in these.");
        Checks.due("behind 32", Checks.told(Parishes.LONG).ending(), -1);
        for (int n = 2; n <= 6; n++) Checks.due("never", Checks.told(Parishes.apart(n, 1)).ending(), -1);
    }

    /** So many mornings from now on, as they are told. */
    private static int in(int mornings) {
        return mornings > 30 ? -1 : Math.max(0, mornings);
    }

    private static void first() {
        Doc.terms("FIRST: behind how many MORNINGS somebody has OWNED first (0: somebody has).");
        Doc.says(23, "FIRST (0 .. 30)");
        for (int n = 1; n <= 6; n++) {
            for (int k = 1; k <= n; k++) {
                StinkhornParish x = Checks.told(Parishes.full(n, Parishes.all(k)));
                for (int gone = 0; gone <= k + 1; gone++) {
                    Checks.due("first of " + k + " behind " + gone, x.first(), Math.max(0, k - gone));
                    x.morning();
                }
            }
        }
        StinkhornParish part = Checks.told("person a keeps bears 9;person b keeps bears 3;sign many>1;");
        Checks.due("the one", part.first(), 4);
        Checks.due("both", part.ending(), 10);
        StinkhornParish far = Checks.told(Parishes.LONG);
        for (int gone = 0; gone <= 33; gone++) {
            Checks.due("first behind " + gone, far.first(), in(31 - gone));
            far.morning();
        }
        Doc.says(23, "NONE if not in these.");
        Checks.due("behind 31", Checks.told(Parishes.LONG).first(), -1);
        Checks.due("nobody", new StinkhornParish().first(), -1);
        Checks.due("no keepers", Checks.told(Parishes.full(3, 0)).first(), -1);
        Checks.due("never", Checks.told(Parishes.apart(3, 1)).first(), -1);
    }

    private static void will() {
        Doc.says(24, "Who OWNS on the n-th MORNING from now on (1 .. 30), as bits (who has OWNED already OWNS again)");
        for (int k = 1; k <= 6; k++) {
            StinkhornParish x = Checks.told(Parishes.full(6, Parishes.all(k)));
            for (int n = 1; n <= 30; n++) Checks.due("will " + n, x.will(n, 0), n < k ? 0 : Parishes.all(k));
            x.morning();
            for (int n = 1; n <= 30; n++) Checks.due("from now on " + n, x.will(n, 0), n < k - 1 ? 0 : Parishes.all(k));
        }
        StinkhornParish far = Checks.told(Parishes.LONG);
        for (int gone = 0; gone <= 32; gone++) {
            Checks.due("on the thirtieth behind " + gone, far.will(30, 0), gone == 0 ? 0 : gone == 1 ? 10 : 14);
            Checks.due("on the one before it", far.will(29, 0), gone < 2 ? 0 : gone == 2 ? 10 : 14);
            far.morning();
        }
        Doc.says(24, "fog as the SEED tells (what 1), none (0)");
        // The rests by 100 that follow draw 0: 71, 98, 97, 60, 91, 38, 77, 20.
        int[] rests = {71, 98, 97, 60, 91, 38, 77, 20};
        for (int fog : new int[] {0, 20, 21, 38, 39, 60, 61, 98, 99, 100}) {
            StinkhornParish x = Checks.told("person a keeps;fog " + fog + ";");
            for (int n = 1; n <= rests.length; n++) {
                Checks.due("fog " + fog + " on " + n, x.will(n, 1), rests[n - 1] < fog ? 0 : 1);
                Checks.due("no fog on " + n, x.will(n, 0), 1);
            }
        }
        StinkhornParish y = Checks.told(Parishes.full(2, 3) + "fog 72;");
        int[] due = {0, 0, 3, 0, 3};
        for (int n = 1; n <= 5; n++) Checks.due("in fog nothing comes of it: " + n, y.will(n, 1), due[n - 1]);
        y.morning();
        Checks.due("by the seed as it is", y.will(2, 1), 3);
        Doc.says(24, "NONE if one can't be.");
        for (int what = 0; what < 2; what++) {
            for (int n : new int[] {0, -1, 31, 32, MIN, MAX}) {
                int which = what;
                Checks.due("will " + n, Checks.told("person a keeps;").will(n, what), -1);
                Twins.unmoved("will " + n, Twins::eventful, x -> x.will(n, which), -1);
            }
        }
        for (int what : new int[] {-1, 2, MIN, MAX}) {
            for (int n : new int[] {1, 30}) Checks.due("what " + what, Checks.told("person a keeps;").will(n, what), -1);
            Twins.unmoved("what " + what, Twins::eventful, x -> x.will(1, what), -1);
        }
        Checks.due("of nobody", new StinkhornParish().will(30, 1), 0);
    }

    private static void worldsAt() {
        Doc.says(25, "How many WORLDS are POSSIBLE behind n MORNINGS (0 .. 30)");
        StinkhornParish x = Checks.told(Parishes.full(6, 63));
        int[] due = {63, 57, 42, 22, 7, 1, 1};
        for (int n = 0; n <= 30; n++) Checks.due("behind " + n, x.worldsAt(n), due[Math.min(n, 6)]);
        Checks.due("all", Checks.told(Parishes.full(6, 63) + "sign 1;").worldsAt(30), 64);
        Checks.due("of nobody", new StinkhornParish().worldsAt(30), 1);
        StinkhornParish far = Checks.told(Parishes.LONG);
        Checks.due("behind 29", far.worldsAt(29), 12);
        Checks.due("behind 30", far.worldsAt(30), 10);
        far.morning();
        Checks.due("behind 1 and 29", far.worldsAt(29), 10);
        Checks.due("behind 1 and 30", far.worldsAt(30), 1);
        Doc.says(25, "NONE for another n.");
        for (int n : new int[] {-1, 31, 32, MIN, MAX}) {
            Checks.due("behind " + n, x.worldsAt(n), -1);
            Twins.unmoved("behind " + n, Twins::eventful, y -> y.worldsAt(n), -1);
        }
    }

    // ------------------------------------------------------------ the fewest, the best

    private static void group() {
        Doc.terms("GROUP for one: the fewest PEOPLE (he himself may be of them) so that all WORLDS that are POSSIBLE and tell the same as the TRUE one "
            + "of all of whom one of these knows tell the same of him; of like ones the least set as bits.");
        Doc.says(26, "GROUP what 0: how many, 1: who, as bits");
        for (int n = 2; n <= 6; n++) {
            StinkhornParish x = Checks.told(Parishes.full(n, 3));
            for (int p = 0; p < n; p++) {
                Checks.due("one who knows of him", x.group(p, 0), 1);
                Checks.due("the first of these", x.group(p, 1), p == 0 ? 2 : 1);
            }
            StinkhornParish one = Checks.told(Parishes.full(n, 1));
            Checks.due("he himself", one.group(0, 1), 1);
            StinkhornParish none = Checks.told(Parishes.full(n, 0));
            Checks.due("nobody is needed", none.group(n - 1, 0), 0);
            Checks.due("nobody is needed", none.group(n - 1, 1), 0);
        }
        // Each knows of the next one alone; the worlds with just one keeper: f is it, if none of a .. e is.
        StinkhornParish row = Checks.told(Parishes.apart(6, 32) + "knows a b;knows b c;knows c d;knows d e;knows e a;sign many=1;");
        Checks.due("five of them", row.group(5, 0), 5);
        Checks.due("all but himself", row.group(5, 1), 31);
        row.whisper(5, 0);
        Checks.due("five of them still", row.group(5, 0), 5);
        Checks.due("the least set", row.group(5, 1), 31);
        row.whisper(5, 1);
        Checks.due("four then", row.group(5, 0), 4);
        Checks.due("with himself", row.group(5, 1), 32 + 2 + 4 + 8);
        // Both b and c, or both a and d: these are 6 and 9 as bits.
        StinkhornParish two = Checks.told("person a;person b;person c keeps;person d;knows a d;knows b a;knows b d;knows c b;knows d a;knows d b;");
        Checks.due("two of them", two.group(2, 0), 2);
        Checks.due("the least set as bits, not the one with the first of them", two.group(2, 1), 6);
        StinkhornParish six = Checks.told(Parishes.apart(6, 0) + "knows f a;knows a b;knows b c;knows c d;knows d e;knows e f;sign many<people;");
        Checks.due("one who knows of him", six.group(5, 1), 16);
        Doc.says(26, "NONE if all together do not, there is none such, or for another what.");
        for (int n = 2; n <= 6; n++) {
            for (int what = 0; what < 2; what++) Checks.due("all together do not", Checks.told(Parishes.apart(n, 1)).group(n - 1, what), -1);
        }
        for (int what = 0; what < 2; what++) {
            int which = what;
            KnowEdges.noSuchOne("group", (x, p) -> x.group(p, which), -1);
        }
        for (int what : new int[] {-1, 2, MIN, MAX}) {
            Checks.due("what " + what, Checks.told("person a;").group(0, what), -1);
            Twins.unmoved("what " + what, Twins::eventful, x -> x.group(0, what), -1);
        }
    }

    private static void call() {
        Doc.terms("CALL: the one by whose ASKING the fewest WORLDS stay POSSIBLE; of like ones the first.");
        Doc.says(27, "CALL what 0: the one, 1: how many WORLDS stay");
        for (int n = 1; n <= 6; n++) {
            StinkhornParish last = Checks.told(Parishes.full(n, 1 << n - 1));
            Checks.due("the keeper", last.call(0), n - 1);
            Checks.due("one world", last.call(1), 1);
            StinkhornParish all = Checks.told(Parishes.full(n, Parishes.all(n)));
            Checks.due("like ones", all.call(0), 0);
            Checks.due("all but one", all.call(1), n == 1 ? 1 : (1 << n) - 2);
            Checks.due("all of them", Checks.told(Parishes.full(n, 1) + "sign 1;").call(1), 1 << n);
        }
        Doc.says(27, "NONE without PEOPLE, or for another what.");
        for (int what : new int[] {0, 1}) Checks.due("nobody", new StinkhornParish().call(what), -1);
        for (int what : new int[] {-1, 2, MIN, MAX}) {
            Checks.due("what " + what, Checks.told("person a;").call(what), -1);
            Twins.unmoved("what " + what, Twins::eventful, x -> x.call(what), -1);
        }
    }

    private static void three(String what, StinkhornParish x, boolean meeting, int one, int other, int end) {
        int[] due = {one, other, end};
        for (int i = 0; i < 3; i++) Checks.due(what + " " + i, meeting ? x.meeting(i) : x.hint(i), due[i]);
    }

    private static void hint() {
        Doc.terms("HINT: the WHISPER (he who comes to know, then of whom; not what he knows already) by which END is soonest, "
            + "if that is sooner than now (or there is none now); of like ones the first (by numbers).");
        Doc.says(28, "HINT what 0: who comes to know, 1: of whom, 2: END then");
        three("none now", Checks.told(Parishes.apart(2, 1)), false, 0, 1, 1);
        three("the other one", Checks.told(Parishes.apart(2, 2)), false, 1, 0, 1);
        // By knowing of c a owns on the first morning, and only with c no keeper: so b knows then.
        three("of like ones the first: b could be told of c as well", Checks.told("person a keeps;person b keeps;person c;sign many>1;"), false, 0, 2, 2);
        three("of like ones the first: of b or of c", Checks.told("person a keeps;person b;person c;sign many=1 and first=0 or many=2 and first=1;"), false, 0, 1, 1);
        three("of like ones the first: of a or of b", Checks.told("person a;person b;person c keeps;sign many=1 and last=2 or many=2 and last=1;"), false, 2, 0, 1);
        three("not what he knows already", Checks.told("person a;person b;person c keeps;knows c a;"), false, 2, 1, 1);
        StinkhornParish sooner = Checks.told("person a;person b;person c keeps;knows b c;sign first>0;");
        Checks.due("now", sooner.ending(), 2);
        three("sooner by one", sooner, false, 2, 1, 1);
        StinkhornParish far = Checks.told("person a bears 3;person b keeps;person c;knows a b;knows a c;knows b a;knows c b;");
        Checks.due("now", far.ending(), 6);
        three("sooner by five", far, false, 1, 2, 1);
        StinkhornParish same = Checks.told("person a keeps bears 3;person b;knows a b;");
        Checks.due("now", same.ending(), 4);
        three("as soon is not sooner", same, false, -1, -1, -1);
        StinkhornParish none = Checks.told("person a keeps;person b;person c;sign many=1;");
        Checks.due("now", none.ending(), -1);
        three("none now, none then", none, false, -1, -1, -1);
        three("none in 30 now", Checks.told(Parishes.LONG), false, 1, 5, 14);
        Doc.says(28, "NONE if there is none, or for another what.");
        for (int n = 0; n <= 6; n++) {
            three("nothing to whisper", Checks.told(Parishes.full(n, Parishes.all(n))), false, -1, -1, -1);
            three("no keepers", Checks.told(Parishes.apart(n, 0)), false, -1, -1, -1);
        }
        for (int what : new int[] {-1, 3, MIN, MAX}) {
            Checks.due("what " + what, Checks.told(Parishes.apart(2, 1)).hint(what), -1);
            Twins.unmoved("what " + what, Twins::eventful, x -> x.hint(what), -1);
        }
    }

    private static void pin() {
        Doc.terms("PIN: the PEG by which END is soonest; of like ones the first.");
        Doc.says(29, "PIN what 0: the one, 1: END then");
        StinkhornParish x = Checks.told(Parishes.apart(2, 2));
        Checks.due("of like ones", x.pin(0), 0);
        Checks.due("end", x.pin(1), 1);
        StinkhornParish y = Checks.told(Parishes.apart(3, 4) + "sign 1;");
        Checks.due("the keeper himself", y.pin(0), 2);
        Checks.due("end", y.pin(1), 1);
        StinkhornParish full = Checks.told(Parishes.full(3, 3));
        Checks.due("who is none: the others go on", full.pin(0), 2);
        Checks.due("no sooner than now is one, too", full.pin(1), 2);
        StinkhornParish ended = Checks.told(Parishes.apart(3, 0));
        Checks.due("ended", ended.pin(0), 0);
        Checks.due("ended", ended.pin(1), 0);
        Checks.due("as late as he bears", Checks.told("person a keeps bears 9;sign 1;").pin(1), 10);
        StinkhornParish part = Checks.told("person a;person b keeps;person c;sign 1;");
        Checks.due("it ends by one of them alone", part.pin(0), 1);
        Checks.due("it ends by one of them alone", part.pin(1), 1);
        Doc.says(29, "NONE if it ends by none, or for another what.");
        for (int what = 0; what < 2; what++) {
            Checks.due("by none", Checks.told(Parishes.apart(3, 3) + "sign 1;").pin(what), -1);
            Checks.due("nobody", new StinkhornParish().pin(what), -1);
        }
        for (int what : new int[] {-1, 2, MIN, MAX}) {
            Checks.due("what " + what, x.pin(what), -1);
            Twins.unmoved("what " + what, Twins::eventful, z -> z.pin(what), -1);
        }
    }

    private static void pegs() {
        Doc.says(47, "The fewest PEOPLE to be shown by PEGS now so that END is behind n MORNINGS at the most (0 .. 9); of like ones the least set as bits: "
            + "what 0: how many, 1: who, as bits");
        for (int n = 1; n <= 6; n++) {
            StinkhornParish x = Checks.told(Parishes.apart(n, Parishes.all(n)) + "sign 1;");
            for (int mornings = 1; mornings <= 9; mornings++) {
                Checks.due("all of them", x.pegs(mornings, 0), n);
                Checks.due("all of them", x.pegs(mornings, 1), Parishes.all(n));
            }
            StinkhornParish full = Checks.told(Parishes.full(n, Parishes.all(n)));
            Checks.due("soon enough", full.pegs(n, 0), 0);
            Checks.due("soon enough", full.pegs(n, 1), 0);
            if (n > 1) Checks.due("too late", full.pegs(n - 1, 0), n);
            StinkhornParish none = Checks.told(Parishes.apart(n, 0));
            Checks.due("ended", none.pegs(0, 0), 0);
        }
        for (int bears = 0; bears <= 9; bears++) {
            StinkhornParish x = Checks.told("person a keeps bears " + bears + ";");
            for (int mornings = 0; mornings <= 9; mornings++) Checks.due("bears " + bears + ", " + mornings, x.pegs(mornings, 0), mornings > bears ? 0 : -1);
        }
        Checks.due("one of two, the least set", Checks.told(Parishes.apart(2, 2)).pegs(1, 1), 1);
        // Both b and c, or both a and d: these are 6 and 9 as bits.
        Checks.due("the least set as bits, not the one with the first of them", Checks.told(Parishes.apart(4, 6) + "sign many>1;").pegs(1, 1), 6);
        Doc.says(47, "NONE if by none, or one can't be.");
        Checks.due("not at once", Checks.told("person a keeps;").pegs(0, 0), -1);
        Checks.due("not at once", Checks.told("person a keeps;").pegs(0, 1), -1);
        for (int mornings : new int[] {-1, 10, 11, MIN, MAX}) {
            Checks.due(mornings + " mornings", Checks.told(Parishes.apart(2, 0)).pegs(mornings, 0), -1);
            Twins.unmoved(mornings + " mornings", Twins::eventful, x -> x.pegs(mornings, 1), -1);
        }
        for (int what : new int[] {-1, 2, MIN, MAX}) {
            Checks.due("what " + what, Checks.told(Parishes.apart(2, 0)).pegs(9, what), -1);
            Twins.unmoved("what " + what, Twins::eventful, x -> x.pegs(9, what), -1);
        }
    }

    private static void spy() {
        Doc.says(48, "The fewest others of whom one would have to know besides so that he KNOWS (in the TRUE WORLD) whether he is a KEEPER himself; "
            + "of like ones the least set as bits: what 0: how many, 1: who, as bits");
        for (int n = 1; n <= 6; n++) {
            StinkhornParish x = Checks.told(Parishes.apart(n, 1));
            Checks.due("all others", x.spy(0, 0), n - 1);
            Checks.due("all others", x.spy(0, 1), Parishes.all(n) - 1);
            StinkhornParish full = Checks.told(Parishes.full(n, 1));
            Checks.due("he knows it", full.spy(0, 0), 0);
            Checks.due("he knows it", full.spy(0, 1), 0);
            Checks.due("that he is none", Checks.told(Parishes.apart(n, 0)).spy(n - 1, 0), 0);
        }
        StinkhornParish like = Checks.told(Parishes.apart(4, 3) + "sign many<3;");
        Checks.due("of the keepers two: he is none", like.spy(2, 0), 2);
        Checks.due("these", like.spy(2, 1), 3);
        StinkhornParish sets = Checks.told(Parishes.apart(4, 0) + "sign many=1 or many=4;");
        Checks.due("all three others", sets.spy(0, 0), 3);
        Checks.due("all three others", sets.spy(0, 1), 14);
        StinkhornParish least = Checks.told(Parishes.apart(4, 14) + "sign many<3 and many>0 or many=3 and first>0;");
        Checks.due("two of three keepers settle nothing; of like ones the least", least.spy(0, 0), 2);
        Checks.due("b and c", least.spy(0, 1), 6);
        // Both b and c, or both a and d: these are 6 and 9 as bits.
        StinkhornParish two = Checks.told("person a shame 1;person b keeps shame 2;person c keeps shame 4;person d shame 8;person e shame 9;"
            + "sign shame=6 or shame=19 or shame=21 or shame=12;");
        Checks.due("two of them", two.spy(4, 0), 2);
        Checks.due("the least set as bits, not the one with the first of them", two.spy(4, 1), 6);
        two.whisper(4, 0);
        Checks.due("one more", two.spy(4, 1), 8);
        Doc.says(48, "NONE if by none, or one can't be.");
        for (int n = 2; n <= 6; n++) {
            for (int what = 0; what < 2; what++) {
                Checks.due("by none", Checks.told(Parishes.full(n, 3)).spy(0, what), -1);
                Checks.due("by none", Checks.told(Parishes.apart(n, 1) + "sign 1;").spy(n - 1, what), -1);
            }
        }
        for (int what = 0; what < 2; what++) {
            int which = what;
            KnowEdges.noSuchOne("spy", (x, p) -> x.spy(p, which), -1);
        }
        for (int what : new int[] {-1, 2, MIN, MAX}) {
            Checks.due("what " + what, Checks.told("person a;").spy(0, what), -1);
            Twins.unmoved("what " + what, Twins::eventful, x -> x.spy(0, what), -1);
        }
    }

    private static void meeting() {
        Doc.says(49, "The two who, by telling one another all of whom they know (each knows then of all, but himself, of whom one of them knew), make END soonest, "
            + "if that is sooner than now (or there is none now), whether both come to know of anybody more or not; "
            + "of like ones the first (the lesser number, then the other one): what 0: the first one, 1: the other one, 2: END then");
        three("a comes to know of c", Checks.told("person a keeps;person b;person c;knows a b;knows b c;"), true, 0, 1, 1);
        // b comes to know nothing more: he knew of c alone, whom a did not know of; a knows of b himself.
        three("one of them learns nothing", Checks.told("person a keeps;person b;person c;knows a b;knows b c;knows b a;"), true, 0, 1, 1);
        three("what one told of the other one himself does not count", Checks.told("person a;person b keeps;knows a b;"), true, -1, -1, -1);
        three("the last two", Checks.told(Parishes.apart(6, 32) + "knows f a;knows f b;knows f c;knows f d;knows a e;"), true, 0, 5, 1);
        three("of like ones", Checks.told(Parishes.apart(6, 32) + "knows f a;knows f b;knows f c;knows f d;knows d e;knows c e;"), true, 2, 5, 1);
        StinkhornParish sooner = Checks.told("person a keeps;person b;person c keeps;knows a b;sign many>1;");
        Checks.due("now", sooner.ending(), 2);
        three("sooner by one", sooner, true, 0, 2, 1);
        StinkhornParish last = Checks.told("person a bears 3;person b;person c keeps;knows a c;knows b a;knows b c;");
        Checks.due("now", last.ending(), 5);
        three("sooner by three", last, true, 1, 2, 2);
        three("without the first one", Checks.told("person a;person b keeps;person c;knows c a;knows c b;"), true, 1, 2, 2);
        StinkhornParish same = Checks.told("person a keeps bears 3;person b;person c;knows a b;knows a c;knows b c;");
        Checks.due("now", same.ending(), 4);
        three("as soon is not sooner", same, true, -1, -1, -1);
        Doc.says(49, "NONE if there are none, or for another what.");
        for (int n = 0; n <= 6; n++) {
            three("no sooner", Checks.told(Parishes.full(n, Parishes.all(n))), true, -1, -1, -1);
            three("nothing to tell", Checks.told(Parishes.apart(n, Parishes.all(n))), true, -1, -1, -1);
            three("ended", Checks.told(Parishes.full(n, 0)), true, -1, -1, -1);
        }
        for (int what : new int[] {-1, 3, MIN, MAX}) {
            Checks.due("what " + what, Checks.told("person a keeps;person b;person c;knows a b;knows b c;").meeting(what), -1);
            Twins.unmoved("what " + what, Twins::eventful, x -> x.meeting(what), -1);
        }
    }

    // ------------------------------------------------------------ were another world the true one

    private static void fate() {
        Doc.says(43, "END (0 .. 30), if a WORLD that is POSSIBLE were the TRUE one (WORLDS, who has OWNED, the morning as they are)");
        for (int n = 0; n <= 6; n++) {
            StinkhornParish x = Checks.told(Parishes.full(n, Parishes.all(n)) + (n == 0 ? "" : "fog 100;"));
            for (int w = n == 0 ? 0 : 1; w < 1 << n; w++) Checks.due("fate " + w + " of " + n, x.fate(w), Integer.bitCount(w));
        }
        StinkhornParish later = Checks.told(Parishes.full(3, 7));
        later.morning();
        Checks.due("from now on", later.fate(3), 1);
        Checks.due("from now on", later.fate(7), 2);
        StinkhornParish bears = Checks.told(Parishes.full(2, 3, " bears 9"));
        Checks.due("as they bear", bears.fate(1), 10);
        bears.morning();
        Checks.due("a morning has gone by", bears.fate(1), 9);
        StinkhornParish owned = Checks.told("person a keeps;person b keeps bears 5;sign first=0;");
        owned.morning();
        Checks.due("a has owned: without b it is ended", owned.fate(1), 0);
        Checks.due("with b it never is", owned.fate(3), -1);
        StinkhornParish far = Checks.told(Parishes.LONG);
        for (int gone = 0; gone <= 33; gone++) {
            Checks.due("the true one behind " + gone, far.fate(14), in(32 - gone));
            Checks.due("another one behind " + gone, far.fate(6), gone >= 30 ? -1 : in(31 - gone));
            Checks.due("and another one behind " + gone, far.fate(19), gone >= 29 ? -1 : in(30 - gone));
            far.morning();
        }
        Doc.says(43, "NONE if not in these, or it is not POSSIBLE.");
        for (int w : new int[] {-1, 0, 8, 64, 65, MIN, MAX}) {
            Checks.due("fate " + w, Checks.told(Parishes.full(3, 7)).fate(w), -1);
            Twins.unmoved("fate " + w, Twins::eventful, x -> x.fate(w), -1);
        }
        Checks.due("not any more", later.fate(1), -1);
        for (int w = 1; w < 4; w++) Checks.due("never", Checks.told(Parishes.apart(2, 1)).fate(w), -1);
    }

    private static void latest() {
        Doc.says(44, "The WORLD that is POSSIBLE of the latest END so (none in these is the latest of all)");
        for (int n = 0; n <= 6; n++) Checks.due("all of them", Checks.told(Parishes.full(n, Math.min(n, 1))).latest(), Parishes.all(n));
        Checks.due("who bears it longest", Checks.told("person a keeps;person b bears 9;knows a b;knows b a;sign many=1;").latest(), 2);
        Checks.due("never is later than nine and one", Checks.told("person a keeps bears 9;person b;person c;knows a b;knows a c;sign many=1;").latest(), 2);
        StinkhornParish late = Checks.told(Parishes.LATE);
        Checks.due("behind 30", late.fate(24), 30);
        Checks.due("never", late.fate(30), -1);
        Checks.due("never is later than 30", late.latest(), 30);
        Doc.says(44, "of like ones the least.");
        Checks.due("never, all but 0", Checks.told(Parishes.apart(6, 0) + "sign 1;").latest(), 1);
        StinkhornParish two = Checks.told(Parishes.full(3, 3) + "sign many<3 and many>0;");
        Checks.due("3, 5, 6 alike", two.latest(), 3);
        two.peg(2);
        Checks.due("the last one left: it is the same", two.latest(), 3);
        two.peg(0);
        two.peg(1);
        Checks.due("the last one left: it is the same", two.latest(), 3);
        StinkhornParish one = Checks.told(Parishes.apart(6, 0));
        Checks.due("the only one", one.latest(), 0);
    }

    private static void tale() {
        Doc.says(45, "Who OWNS on each MORNING till END (9 MORNINGS at the most, as many without END), if a WORLD that is POSSIBLE were the TRUE one: how many MORNINGS.");
        Doc.says(45, "They lie there then, as bits (behind NONE: nothing).");
        Doc.says(52, "The i-th number of what lies there");
        for (int w = 1; w < 64; w += 2) {
            StinkhornParish x = Checks.told(Parishes.full(6, 63));
            int k = Integer.bitCount(w);
            Checks.due("tale " + w, x.tale(w), k);
            Checks.due("lying", x.about(12), k);
            for (int i = 0; i < k; i++) Checks.due("lies " + i, x.lies(i), i < k - 1 ? 0 : w);
            Checks.due("no more", x.lies(k), -1);
            Checks.due("a shorter one", x.tale(1), 1);
            Checks.due("lying", x.about(12), 1);
            Checks.due("lies 0", x.lies(0), 1);
            Checks.due("nothing of the one before", x.lies(1), -1);
        }
        for (int bears = 0; bears <= 9; bears++) {
            StinkhornParish x = Checks.told("person a keeps bears " + bears + ";");
            int due = Math.min(bears + 1, 9);
            Checks.due("bears " + bears, x.tale(1), due);
            for (int i = 0; i < 10; i++) Checks.due("lies " + i, x.lies(i), i >= due ? -1 : i == bears ? 1 : 0);
        }
        StinkhornParish never = Checks.told(Parishes.apart(2, 1));
        Checks.due("nine without end", never.tale(3), 9);
        for (int i = 0; i < 11; i++) Checks.due("lies " + i, never.lies(i), i < 9 ? 0 : -1);
        StinkhornParish ended = Checks.told(Parishes.apart(2, 0));
        Checks.due("none", ended.tale(0), 0);
        Checks.due("nothing", ended.about(12), 0);
        Checks.due("nothing", ended.lies(0), -1);
        Doc.says(45, "NONE if it is not POSSIBLE.");
        for (int w : new int[] {-1, 0, 4, 64, 65, MIN, MAX}) {
            Checks.due("nine again", never.tale(3), 9);
            Checks.due("tale " + w, never.tale(w), -1);
            Checks.due("behind NONE nothing", never.about(12), 0);
            Checks.due("behind NONE nothing", never.lies(0), -1);
            Twins.unmoved("tale " + w, x -> { Twins.eventful(x); x.tale(-1); }, x -> x.tale(w), -1);
        }
        Twins.unmoved("a tale does nothing else", x -> { Twins.eventful(x); x.tale(3); }, x -> x.tale(3), 2);
        Doc.says(52, "NONE if there is none such.");
        for (int i : new int[] {-1, 9, 10, MIN, MAX}) {
            Checks.due("nine once more", never.tale(3), 9);
            Checks.due("lies " + i, never.lies(i), -1);
            Checks.due("lies " + i + " of none", new StinkhornParish().lies(i), -1);
            Twins.unmoved("lies " + i, Twins::eventful, x -> x.lies(i), -1);
        }
        Checks.due("of none", new StinkhornParish().lies(0), -1);
    }

    private static void within() {
        Doc.says(51, "Behind how many MORNINGS (0 .. 30) no more than n WORLDS (1 .. 64) are POSSIBLE first");
        StinkhornParish x = Checks.told(Parishes.full(6, 63));
        int[] left = {63, 57, 42, 22, 7, 1};
        for (int n = 1; n <= 64; n++) {
            int due = 0;
            while (left[due] > n) due++;
            Checks.due("within " + n, x.within(n), due);
        }
        x.morning();
        Checks.due("from now on", x.within(1), 4);
        StinkhornParish far = Checks.told(Parishes.LONG);
        for (int gone = 0; gone <= 33; gone++) {
            Checks.due("one world behind " + gone, far.within(1), in(31 - gone));
            Checks.due("ten worlds behind " + gone, far.within(10), in(30 - gone));
            Checks.due("eleven worlds behind " + gone, far.within(11), in(30 - gone));
            Checks.due("twelve worlds behind " + gone, far.within(12), in(29 - gone));
            far.morning();
        }
        Doc.says(51, "NONE if not in these, or for another n.");
        StinkhornParish all = Checks.told(Parishes.full(6, 1) + "sign 1;");
        Checks.due("64", all.within(64), 0);
        Checks.due("63 never", all.within(63), -1);
        Checks.due("1 never", all.within(1), -1);
        for (int n : new int[] {0, -1, 65, 66, MIN, MAX}) {
            Checks.due("within " + n, all.within(n), -1);
            Checks.due("within " + n, new StinkhornParish().within(n), -1);
            Twins.unmoved("within " + n, Twins::eventful, y -> y.within(n), -1);
        }
        Checks.due("of nobody", new StinkhornParish().within(1), 0);
    }

    private static void odds() {
        Doc.terms("ODDS: that there is no fog on n MORNINGS, whatever the SEED is.");
        Doc.says(53, "ODDS (n 0 .. 4) the upper part (0), the lower part (1), in lowest terms (0 of 1)");
        for (int fog = 0; fog <= 100; fog++) {
            StinkhornParish x = Checks.told("fog " + fog + ";draw " + fog + ";");
            int upper = 1;
            int lower = 1;
            for (int n = 0; n <= 4; n++) {
                int a = upper;
                int b = lower;
                for (int d = 2; d <= 100; d++) {
                    while (a % d == 0 && b % d == 0 && b > 1) {
                        a /= d;
                        b /= d;
                    }
                }
                Checks.due("fog " + fog + " on none of " + n, x.odds(n, 0), a);
                Checks.due("fog " + fog + " of", x.odds(n, 1), b);
                upper *= 100 - fog;
                lower *= 100;
            }
        }
        StinkhornParish never = Checks.told("fog 100;");
        Checks.due("on no morning there is none", never.odds(0, 0), 1);
        for (int n = 1; n <= 4; n++) {
            Checks.due("0", never.odds(n, 0), 0);
            Checks.due("of 1", never.odds(n, 1), 1);
        }
        Checks.due("the greatest", Checks.told("fog 1;").odds(4, 1), 100000000);
        Checks.due("the greatest", Checks.told("fog 1;").odds(4, 0), 96059601);
        Doc.says(53, "NONE if one can't be.");
        for (int part = 0; part < 2; part++) {
            for (int n : new int[] {-1, 5, 6, MIN, MAX}) {
                int which = part;
                Checks.due("n " + n, Checks.told("fog 50;").odds(n, part), -1);
                Twins.unmoved("n " + n, Twins::eventful, x -> x.odds(n, which), -1);
            }
        }
        for (int part : new int[] {-1, 2, MIN, MAX}) {
            for (int n : new int[] {0, 4}) Checks.due("part " + part, Checks.told("fog 50;").odds(n, part), -1);
            Twins.unmoved("part " + part, Twins::eventful, x -> x.odds(1, part), -1);
        }
    }
}
