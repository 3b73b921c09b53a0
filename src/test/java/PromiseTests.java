/** Each promise with ordinary inputs, the edges that the document names, and wrong inputs. */
public final class PromiseTests {
    private static final int[] NOBODY = {-1, 2, 6, 64, Integer.MIN_VALUE, Integer.MAX_VALUE};

    // Two who know of one another; only the first one keeps something. Worlds 1, 2, 3 are possible.
    private static final String TWO = "person a keeps;person b;knows a b;knows b a;";
    // Two who know of nobody.
    private static final String APART = "person a keeps;person b;";
    // Three who know of one another, two keepers.
    private static final String THREE = "person ann keeps shame 2;person bob keeps;person cid shame 1;"
        + "knows ann bob;knows ann cid;knows bob ann;knows bob cid;knows cid ann;knows cid bob;";

    public static void main(String[] args) {
        aNewObject();
        theTape();
        parishAndFault();
        people();
        signsAndWorlds();
        mornings();
        fog();
        measuringAndAsking();
        pegsAndWhispers();
        undoing();
        knowing();
        deepKnowledge();
        whatLiesAhead();
        groups();
        calls();
        hintsPinsMeetings();
        thoughts();
        wisestTalkedReach();
        countsOfWorlds();
        lawAndBets();
        partsAndAlike();
        fatesAndTales();
        bearing();
        fewestPegsAndSpies();
        within();
        odds();
        seen();
        seenInTwoTimes();
        whatWasDoneDoesNotCount();
        next();
        images();
        about();
        sixOfThem();
        likeOnes();
        theLastMorning();
        Checks.done();
    }

    private static void aNewObject() {
        StinkhornParish x = new StinkhornParish();
        for (int what = 0; what <= 12; what++) Checks.due("new: about " + what, x.about(what), 0);
        Checks.due("new: worlds", x.worlds(), 1);
        Checks.due("new: fault", x.fault(0), 0);
        Checks.due("new: fault's place", x.fault(1), -1);
        Checks.due("new: undo", x.undo(), false);
        Checks.due("new: redo", x.redo(), false);
        Checks.due("new: fits", x.fits(0), 1);
        Checks.due("new: latest", x.latest(), 0);
        Checks.due("new: end", x.ending(), 0);
        Checks.due("new: back", x.back(0), -1);
        Checks.due("new: parish of nothing", x.parish(), 0);
        Checks.due("NONE", StinkhornParish.NONE, -1);
    }

    private static void theTape() {
        StinkhornParish x = new StinkhornParish();
        for (int i = 1; i <= 80; i++) Checks.due("feed " + i, x.feed(0x20202020, 0x20202020, 0x20202020, 0x20202020, 0x20202020), 20 * i);
        Checks.due("feed beyond 1600", x.feed(0, 0, 0, 0, 0), -1);
        Checks.due("bytes then", x.about(9), 1600);
        Checks.due("end beyond", x.end(1601), -1);
        Checks.due("end below", x.end(-1), -1);
        Checks.due("end 1581", x.end(1581), 1581);
        Checks.due("feed beyond by one", x.feed(0, 0, 0, 0, 0), -1);
        Checks.due("end 1580", x.end(1580), 1580);
        Checks.due("end does not go up", x.end(1581), -1);
        // "person a keeps;fog 5" behind all these blanks: each number's highest byte is the first.
        Checks.due("feed to 1600", x.feed(0x70657273, 0x6f6e2061, 0x206b6565, 0x70733b66, 0x6f672035), 1600);
        Checks.due("parish without its last ;", x.parish(), -1);
        Checks.due("its fault", x.fault(0), 2);
        Checks.due("its place", x.fault(1), 1600);
        Checks.due("the tape stays", x.about(9), 1600);
        Checks.due("cut", x.end(1595), 1595);
        Checks.due("parish", x.parish(), 1);
        Checks.due("the tape is empty then", x.about(9), 0);
        Checks.due("a keeper", x.person(0, 0), 1);
        Checks.due("no fog", x.about(11), 0);
        Checks.due("end 0", x.end(0), 0);
    }

    private static void parishAndFault() {
        StinkhornParish x = Checks.told(THREE + "fog 30;draw 7;sign many+0;");
        x.later(5);
        x.seen(1, 0, true);
        x.tale(3);
        x.image(1);
        x.morning();
        x.morning();
        x.undo();
        Checks.tape(x, "person a; x");
        Checks.due("a fault", x.parish(), -1);
        Checks.due("fault", x.fault(0), 2);
        Checks.due("place", x.fault(1), 10);
        Checks.due("fault of another what", x.fault(2), -1);
        Checks.due("fault of what -1", x.fault(-1), -1);
        int[] stays = {3, 3, 0, 1, x.about(4), 1, 1, 1, 5, 11, 2, 30, 2};
        for (int what = 0; what < stays.length; what++) Checks.due("a fault leaves " + what, x.about(what), stays[what]);
        x.end(0);
        Checks.tape(x, "draw 8;person a;");
        Checks.due("another one", x.parish(), 1);
        Checks.due("no fault", x.fault(0), 0);
        Checks.due("no place", x.fault(1), -1);
        int[] anew = {1, 0, 0, 0, 8, 0, 0, 0, 5, 0, 0, 0, 0};
        for (int what = 0; what < anew.length; what++) Checks.due("anew " + what, x.about(what), anew[what]);
        Checks.due("boxes are empty", x.back(1), -1);
        Checks.due("nothing lies there", x.lies(0), -1);
    }

    private static void people() {
        StinkhornParish x = Checks.told("person a keeps shame 9 bears 3;person b;knows a b;");
        int[][] due = {{1, 9, 3, 2, 0}, {0, 0, 0, 0, 0}};
        for (int p = 0; p < 2; p++) {
            for (int what = 0; what < 5; what++) Checks.due("person " + p + " " + what, x.person(p, what), due[p][what]);
            Checks.due("person what 5", x.person(p, 5), -1);
            Checks.due("person what -1", x.person(p, -1), -1);
        }
        for (int p : NOBODY) Checks.due("person " + p, x.person(p, 0), -1);
        for (int i = 0; i < 4; i++) x.morning();
        Checks.due("has owned", x.person(0, 4), 1);
        Checks.due("has not owned", x.person(1, 4), 0);
        x.whisper(1, 0);
        Checks.due("knows by a whisper", x.person(1, 3), 1);
    }

    private static void signsAndWorlds() {
        StinkhornParish x = Checks.told("person a keeps shame 2;person b shame 5;sign shame - 3;");
        int[] signs = {-3, -1, 2, 4};
        int[] possible = {1, 1, 0, 0};
        for (int w = 0; w < 4; w++) {
            Checks.due("sign " + w, x.sign(w), signs[w]);
            Checks.due("possible " + w, x.possible(w), possible[w]);
        }
        for (int w : new int[] {-1, 4, 64, Integer.MAX_VALUE, Integer.MIN_VALUE}) {
            Checks.due("sign " + w, x.sign(w), -1000000000);
            Checks.due("possible " + w, x.possible(w), -1);
        }
        Checks.due("worlds", x.worlds(), 2);
        Checks.due("all worlds of six", Checks.told("sign 1;person a;person b;person c;person d;person e;person f;").worlds(), 64);
        Checks.due("no sign: how many", Checks.told(THREE).sign(7), 3);
        Checks.due("above 0 in none", Checks.told("person a;").worlds(), 1);
    }

    private static void mornings() {
        StinkhornParish x = Checks.told(THREE);
        Checks.due("first morning", x.morning(), 0);
        Checks.due("two keepers at least", x.worlds(), 4);
        Checks.due("nobody has owned", x.about(2), 0);
        Checks.due("second morning", x.morning(), 3);
        Checks.due("one world", x.worlds(), 1);
        Checks.due("both have owned", x.about(2), 3);
        Checks.due("they own again", x.morning(), 3);
        Checks.due("mornings gone by", x.about(3), 3);
        Checks.due("seed: 0, 71, 798, 397", x.about(4), 397);
        Checks.due("acts", x.about(5), 3);
    }

    private static void fog() {
        StinkhornParish x = Checks.told(TWO + "fog 50;draw 10;");
        // 10 -> 1441 % 1000 = 441: 41 is below 50; 441 -> 60488: 488: 88 is not.
        Checks.due("will in fog", x.will(1, 1), 0);
        Checks.due("will without", x.will(1, 0), 1);
        Checks.due("will behind fog", x.will(2, 1), 1);
        Checks.due("in fog", x.morning(), 0);
        Checks.due("seed", x.about(4), 441);
        Checks.due("a morning all the same", x.about(3), 1);
        Checks.due("all worlds stay", x.worlds(), 3);
        Checks.due("no fog", x.morning(), 1);
        Checks.due("seed", x.about(4), 488);
        Checks.due("one world", x.worlds(), 1);
        StinkhornParish edge = Checks.told(TWO + "fog 41;draw 10;");
        Checks.due("a rest as great as fog tells is no fog", edge.morning(), 1);
        StinkhornParish thick = Checks.told(TWO + "fog 100;");
        for (int i = 0; i < 5; i++) Checks.due("always fog", thick.morning(), 0);
        Checks.due("what lies ahead is without fog", thick.ending(), 1);
    }

    private static void measuringAndAsking() {
        StinkhornParish x = Checks.told(THREE);
        Checks.due("measure", x.measure(), 3);
        Checks.due("two keepers", x.possible(7), 0);
        Checks.due("measure once more", x.measure(), 3);
        Checks.due("acts", x.about(5), 2);
        Checks.due("ask ann, who sees one and knows of two", x.ask(0), 1);
        Checks.due("she knows it in 3 and in 5", x.worlds(), 2);
        StinkhornParish y = Checks.told(THREE);
        Checks.due("ask ann", y.ask(0), 0);
        Checks.due("she would know it in world 1 alone", y.worlds(), 6);
        Checks.due("not 1", y.possible(1), 0);
        StinkhornParish late = Checks.told("person a keeps bears 5;");
        Checks.due("an asking does not wait", late.ask(0), 1);
        Checks.due("asked, not owned", late.about(2), 0);
        for (int p : new int[] {-1, 3, 6, Integer.MAX_VALUE, Integer.MIN_VALUE}) {
            Checks.due("ask " + p, y.ask(p), -1);
            Checks.due("peg " + p, y.peg(p), -1);
        }
        Checks.due("no acts of these", y.about(5), 1);
    }

    private static void pegsAndWhispers() {
        StinkhornParish x = Checks.told(APART);
        Checks.due("peg b", x.peg(1), 0);
        Checks.due("one world", x.worlds(), 1);
        Checks.due("undo", x.undo(), true);
        Checks.due("peg a", x.peg(0), 1);
        Checks.due("two worlds", x.worlds(), 2);
        Checks.due("whisper", x.whisper(0, 1), 1);
        Checks.due("once only", x.whisper(0, 1), -1);
        Checks.due("of himself", x.whisper(1, 1), -1);
        Checks.due("no worlds go", x.worlds(), 2);
        Checks.due("he knows of him then", x.knows(0, 1), 0);
        Checks.due("the other one does not", x.knows(1, 1), -1);
        for (int p : NOBODY) {
            Checks.due("whisper to " + p, x.whisper(p, 0), -1);
            Checks.due("whisper of " + p, x.whisper(0, p), -1);
        }
        Checks.due("two acts", x.about(5), 2);
        StinkhornParish three = Checks.told("person a;person b;person c;knows a b;");
        Checks.due("of how many then", three.whisper(0, 2), 2);
    }

    private static void undoing() {
        StinkhornParish x = Checks.told(TWO + "draw 1;");
        x.morning();
        Checks.due("owned", x.about(2), 1);
        x.peg(1);
        Checks.due("undo", x.undo(), true);
        Checks.due("undo", x.undo(), true);
        Checks.due("worlds again", x.worlds(), 3);
        Checks.due("nobody has owned", x.about(2), 0);
        Checks.due("morning again", x.about(3), 0);
        Checks.due("seed again", x.about(4), 1);
        Checks.due("no more", x.undo(), false);
        Checks.due("to be done again", x.about(6), 2);
        Checks.due("redo", x.redo(), true);
        Checks.due("owned again", x.about(2), 1);
        Checks.due("one more to be done again", x.about(6), 1);
        Checks.due("a wrong act is none", x.peg(9), -1);
        Checks.due("still there", x.about(6), 1);
        x.measure();
        Checks.due("another act: nothing to be done again", x.about(6), 0);
        Checks.due("redo", x.redo(), false);
        for (int i = 0; i < 50; i++) x.morning();
        Checks.due("forty are kept", x.about(5), 40);
        int undone = 0;
        while (undone < 100 && x.undo()) undone++;
        Checks.due("forty undone", undone, 40);
        Checks.due("the oldest have gone", x.about(3), 11);
        Checks.due("forty to be redone", x.about(6), 40);
        int redone = 0;
        while (redone < 100 && x.redo()) redone++;
        Checks.due("forty redone", redone, 40);
        Checks.due("all mornings again", x.about(3), 51);
        StinkhornParish w = Checks.told(APART);
        w.whisper(0, 1);
        w.undo();
        Checks.due("a whisper undone", w.person(0, 3), 0);
        w.redo();
        Checks.due("and done again", w.person(0, 3), 2);
    }

    private static void knowing() {
        StinkhornParish x = Checks.told(TWO);
        int[][] due = {{1, 0}, {1, -1}};
        for (int p = 0; p < 2; p++) {
            for (int o = 0; o < 2; o++) Checks.due("knows " + p + " " + o, x.knows(p, o), due[p][o]);
        }
        Checks.due("in world 3 a does not know of himself", x.knowsIn(3, 0, 0), -1);
        Checks.due("in world 2 b knows", x.knowsIn(2, 1, 1), 1);
        Checks.due("in world 2 b knows of a", x.knowsIn(2, 1, 0), 0);
        Checks.due("world 0 is not possible", x.knowsIn(0, 0, 0), -2);
        Checks.due("no such world", x.knowsIn(4, 0, 0), -2);
        Checks.due("no such world", x.knowsIn(-1, 0, 0), -2);
        for (int p : NOBODY) {
            Checks.due("knows " + p, x.knows(p, 0), -2);
            Checks.due("knows of " + p, x.knows(0, p), -2);
            Checks.due("knowsIn " + p, x.knowsIn(1, p, 0), -2);
            Checks.due("knowsIn of " + p, x.knowsIn(1, 0, p), -2);
        }
        Checks.due("open to a", x.open(0), 1);
        Checks.due("open to b", x.open(1), 2);
        for (int p : NOBODY) Checks.due("open to " + p, x.open(p), -1);
        Checks.due("unsure", x.unsure(), 2);
        Checks.due("settled", x.settled(), 1);
        x.morning();
        Checks.due("nobody is unsure", x.unsure(), 0);
        Checks.due("all is settled", x.settled(), 3);
    }

    private static void deepKnowledge() {
        StinkhornParish x = Checks.told(TWO);
        Checks.due("all know of a, but b does not know that a does", x.depth(0), 1);
        Checks.due("no keeper", x.depth(1), -1);
        for (int p : NOBODY) {
            Checks.due("depth of " + p, x.depth(p), -1);
            Checks.due("shared of " + p, x.shared(p, 0), -1);
        }
        int[] shared = {2, 1, 0, 0};
        for (int n = 0; n < 4; n++) Checks.due("shared " + n, x.shared(0, n), shared[n]);
        Checks.due("shared 9", x.shared(0, 9), 0);
        Checks.due("shared 10", x.shared(0, 10), -1);
        Checks.due("shared -1", x.shared(0, -1), -1);
        Checks.due("common", x.common(), 0);
        x.morning();
        Checks.due("common behind a morning", x.common(), 1);
        Checks.due("to any depth", x.depth(0), 9);
        Checks.due("in the one world", x.shared(0, 9), 1);
        StinkhornParish alone = Checks.told(APART);
        Checks.due("nobody knows it", alone.depth(0), 0);
        alone.peg(0);
        Checks.due("shown before all", alone.depth(0), 9);
        Checks.due("shown before all", alone.common(), 1);
        // Six who see all others: behind each morning one less is thought possible.
        StinkhornParish six = Checks.told(six("keeps"));
        Checks.due("with six keepers nobody knows of himself", six.depth(0), 0);
        for (int i = 0; i < 5; i++) Checks.due("nobody owns", six.morning(), 0);
        Checks.due("all own", six.morning(), 63);
        Checks.due("common then", six.common(), 63);
    }

    private static String six(String keeps) {
        StringBuilder b = new StringBuilder();
        for (char c = 'a'; c < 'g'; c++) b.append("person ").append(c).append(" ").append(keeps).append(";");
        for (char c = 'a'; c < 'g'; c++) {
            for (char d = 'a'; d < 'g'; d++) if (c != d) b.append("knows ").append(c).append(" ").append(d).append(";");
        }
        return b.toString();
    }

    private static void whatLiesAhead() {
        StinkhornParish x = Checks.told(THREE + "fog 100;");
        Checks.due("end", x.ending(), 2);
        Checks.due("first", x.first(), 2);
        int[] owns = {0, 3, 3, 3};
        int[] left = {7, 4, 1, 1};
        for (int n = 1; n <= 4; n++) Checks.due("will " + n, x.will(n, 0), owns[n - 1]);
        for (int n = 0; n < 4; n++) Checks.due("worldsAt " + n, x.worldsAt(n), left[n]);
        Checks.due("will 30", x.will(30, 0), 3);
        Checks.due("will 30 in fog", x.will(30, 1), 0);
        Checks.due("will 31", x.will(31, 0), -1);
        Checks.due("will 0", x.will(0, 0), -1);
        Checks.due("will what 2", x.will(1, 2), -1);
        Checks.due("will what -1", x.will(1, -1), -1);
        Checks.due("worldsAt 30", x.worldsAt(30), 1);
        Checks.due("worldsAt 31", x.worldsAt(31), -1);
        Checks.due("worldsAt -1", x.worldsAt(-1), -1);
        Checks.due("nothing was done", x.about(3), 0);
        Checks.due("nothing was kept", x.about(5), 0);
        StinkhornParish y = Checks.told(THREE);
        y.morning();
        Checks.due("end from now on", y.ending(), 1);
        Checks.due("first from now on", y.first(), 1);
        y.morning();
        Checks.due("they have", y.ending(), 0);
        Checks.due("somebody has", y.first(), 0);
        StinkhornParish none = Checks.told(APART);
        Checks.due("no end", none.ending(), -1);
        Checks.due("nobody first", none.first(), -1);
        Checks.due("no keepers: ended", Checks.told("person a;").ending(), 0);
        Checks.due("six", Checks.told(six("keeps")).ending(), 6);
        Checks.due("six, first", Checks.told(six("keeps")).first(), 6);
        StinkhornParish part = Checks.told("person a keeps;person b keeps bears 4;sign many > 1;");
        Checks.due("the first one", part.first(), 1);
        Checks.due("the last one", part.ending(), 5);
    }

    private static void groups() {
        StinkhornParish x = Checks.told(TWO);
        Checks.due("a alone knows of a", x.group(0, 0), 1);
        Checks.due("a", x.group(0, 1), 1);
        Checks.due("b is known to a", x.group(1, 1), 1);
        Checks.due("what 2", x.group(0, 2), -1);
        Checks.due("what -1", x.group(0, -1), -1);
        for (int p : NOBODY) Checks.due("group for " + p, x.group(p, 0), -1);
        Checks.due("all together do not", Checks.told(APART).group(0, 0), -1);
        StinkhornParish three = Checks.told("person a;person b keeps;person c;person d;knows c a;knows d c;sign many = 1;");
        // Worlds 1, 2, 4, 8: b's is settled by none but those who know of a, of c and of d.
        Checks.due("not even all", three.group(1, 0), -1);
        three.whisper(0, 3);
        Checks.due("three are needed", three.group(1, 0), 3);
        Checks.due("a, c and d", three.group(1, 1), 13);
        three.peg(1);
        Checks.due("shown: nobody is needed", three.group(1, 0), 0);
        Checks.due("shown: nobody is needed", three.group(1, 1), 0);
    }

    private static void calls() {
        StinkhornParish x = Checks.told(TWO);
        Checks.due("call a", x.call(0), 0);
        Checks.due("one stays", x.call(1), 1);
        Checks.due("what 2", x.call(2), -1);
        Checks.due("what -1", x.call(-1), -1);
        StinkhornParish y = Checks.told("person a;person b keeps;knows a b;knows b a;");
        Checks.due("call b", y.call(0), 1);
        Checks.due("like ones: the first", Checks.told(APART).call(0), 0);
        Checks.due("all stay", Checks.told(APART).call(1), 3);
        Checks.due("nobody", new StinkhornParish().call(1), -1);
    }

    private static void hintsPinsMeetings() {
        StinkhornParish x = Checks.told(APART);
        int[] hint = {0, 1, 1};
        for (int what = 0; what < 3; what++) Checks.due("hint " + what, x.hint(what), hint[what]);
        Checks.due("hint 3", x.hint(3), -1);
        Checks.due("hint -1", x.hint(-1), -1);
        Checks.due("they have nothing to tell", x.meeting(0), -1);
        Checks.due("pin", x.pin(0), 0);
        Checks.due("pin's end", x.pin(1), 1);
        Checks.due("pin 2", x.pin(2), -1);
        Checks.due("pin -1", x.pin(-1), -1);
        StinkhornParish two = Checks.told(TWO);
        Checks.due("nothing to whisper", two.hint(0), -1);
        Checks.due("a meeting is no sooner", two.meeting(2), -1);
        Checks.due("a peg is no later", two.pin(1), 1);
        // a sees b alone, b sees c: by a meeting a sees both and knows that it is he.
        StinkhornParish three = Checks.told("person a keeps;person b;person c;knows a b;knows b c;");
        int[] meeting = {0, 1, 1};
        for (int what = 0; what < 3; what++) Checks.due("meeting " + what, three.meeting(what), meeting[what]);
        Checks.due("meeting 3", three.meeting(3), -1);
        Checks.due("meeting -1", three.meeting(-1), -1);
        Checks.due("hint to a", three.hint(0), 0);
        Checks.due("of c", three.hint(1), 2);
        Checks.due("ends", three.hint(2), 1);
        Checks.due("nothing was whispered", three.person(0, 3), 2);
        // Only showing b settles a, and it must be shown that a is the one: the second peg is as good.
        StinkhornParish pins = Checks.told("person b;person a keeps;knows b a;sign many = 1;");
        Checks.due("the first of like pegs", pins.pin(0), 0);
        StinkhornParish never = Checks.told("person a;person b keeps;person c keeps;sign 1;");
        Checks.due("one peg is not enough", never.pin(0), -1);
        Checks.due("one peg is not enough", never.pin(1), -1);
        Checks.due("nobody", new StinkhornParish().pin(0), -1);
        // Ended already: nothing is sooner.
        StinkhornParish ended = Checks.told("person a;person b;");
        Checks.due("no hint", ended.hint(0), -1);
        Checks.due("no meeting", ended.meeting(0), -1);
        Checks.due("a peg ends it at once", ended.pin(1), 0);
    }

    private static void thoughts() {
        StinkhornParish x = Checks.told(TWO);
        int[][] due = {{1, 2}, {3, 2}};
        for (int p = 0; p < 2; p++) {
            for (int o = 0; o < 2; o++) Checks.due("thinks " + p + " " + o, x.thinks(p, o), due[p][o]);
        }
        for (int p : NOBODY) {
            Checks.due("thinks " + p, x.thinks(p, 0), -1);
            Checks.due("thinks of " + p, x.thinks(0, p), -1);
        }
        Checks.due("a knows that b is none; what b thinks of himself does not count", x.wronged(), 0);
        StinkhornParish apart = Checks.told(APART);
        Checks.due("a thinks it of b", apart.wronged(), 2);
        apart.peg(1);
        Checks.due("shown", apart.wronged(), 0);
        Checks.due("no others", Checks.told("person a;sign 1;").wronged(), 0);
        Checks.due("settled by nobody", Checks.told(APART).settled(), 0);
    }

    private static void wisestTalkedReach() {
        StinkhornParish x = Checks.told("person a keeps;person b;person c;person d;knows b a;knows c b;knows c a;");
        Checks.due("wisest", x.wisest(), 2);
        Checks.due("talked of", x.talked(), 0);
        int[][] due = {{0, 1, 1, -1}, {-1, 0, 1, -1}, {-1, -1, 0, -1}, {-1, -1, -1, 0}};
        for (int p = 0; p < 4; p++) {
            for (int o = 0; o < 4; o++) Checks.due("reach " + p + " " + o, x.reach(p, o), due[p][o]);
        }
        for (int p : new int[] {-1, 4, 6, Integer.MAX_VALUE, Integer.MIN_VALUE}) {
            Checks.due("reach from " + p, x.reach(p, 0), -1);
            Checks.due("reach to " + p, x.reach(0, p), -1);
            Checks.due("reach of " + p, x.reach(p, p), -1);
        }
        x.whisper(3, 2);
        Checks.due("by a whisper", x.reach(0, 3), 2);
        Checks.due("of like ones the first", Checks.told(APART).wisest(), 0);
        Checks.due("of like ones the first", Checks.told(APART).talked(), 0);
        Checks.due("most others know of b", Checks.told("person a;person b;person c;knows a b;knows c b;knows b a;").talked(), 1);
        Checks.due("nobody", new StinkhornParish().wisest(), -1);
        Checks.due("nobody", new StinkhornParish().talked(), -1);
        StinkhornParish chain = Checks.told("person a;person b;person c;person d;person e;person f;"
            + "knows b a;knows c b;knows d c;knows e d;knows f e;");
        Checks.due("five steps", chain.reach(0, 5), 5);
        Checks.due("not back", chain.reach(5, 0), -1);
    }

    private static void countsOfWorlds() {
        StinkhornParish x = Checks.told(THREE);
        int[] least = {-1, 1, 3, 7, -1, -1, -1};
        for (int n = 0; n < 7; n++) Checks.due("least " + n, x.least(n), least[n]);
        for (int n : new int[] {-1, 7, Integer.MIN_VALUE, Integer.MAX_VALUE}) Checks.due("least " + n, x.least(n), -1);
        Checks.due("least of none", Checks.told("person a;").least(0), 0);
        x.morning();
        Checks.due("least 1 behind a morning", x.least(1), -1);
        for (int p = 0; p < 3; p++) Checks.due("suspected " + p, x.suspected(p), 3);
        x.peg(2);
        Checks.due("suspected and shown", x.suspected(2), 0);
        for (int p : new int[] {-1, 3, 6, Integer.MAX_VALUE}) Checks.due("suspected " + p, x.suspected(p), -1);
        StinkhornParish q = Checks.told(THREE);
        Checks.due("quiet: all but three", q.quiet(), 4);
        q.morning();
        Checks.due("quiet behind a morning", q.quiet(), 1);
        Checks.due("quiet while they bear it", Checks.told("person a keeps bears 1;person b bears 1;knows a b;knows b a;").quiet(), 3);
        Checks.due("quiet in fog, too", Checks.told(TWO + "fog 100;").quiet(), 1);
    }

    private static void lawAndBets() {
        StinkhornParish x = Checks.told("person a keeps bears 9;person b keeps;sign many > 1;");
        Checks.due("law 0", x.law(0), 2);
        Checks.due("law 1", x.law(1), 0);
        x.morning();
        Checks.due("law 1 behind a morning", x.law(1), 2);
        Checks.due("law 2", x.law(2), 0);
        Checks.due("law 99", x.law(99), 0);
        Checks.due("law 100", x.law(100), -1);
        Checks.due("law -1", x.law(-1), -1);
        Checks.due("law of those who know", Checks.told(TWO).law(0), 1);
        StinkhornParish y = Checks.told(APART);
        Checks.due("two", y.bet(0, 0, 0), 2);
        Checks.due("of three", y.bet(0, 0, 1), 3);
        y.whisper(0, 1);
        Checks.due("one", y.bet(0, 0, 0), 1);
        Checks.due("of one", y.bet(0, 0, 1), 1);
        Checks.due("none", y.bet(0, 1, 0), 0);
        Checks.due("of one", y.bet(0, 1, 1), 1);
        Checks.due("lowest terms", Checks.told("person a;person b;person c;sign 1;").bet(0, 2, 1), 2);
        Checks.due("part 2", y.bet(0, 1, 2), -1);
        Checks.due("part -1", y.bet(0, 1, -1), -1);
        for (int p : NOBODY) {
            Checks.due("bet " + p, y.bet(p, 0, 0), -1);
            Checks.due("bet on " + p, y.bet(0, p, 0), -1);
        }
    }

    private static void partsAndAlike() {
        StinkhornParish x = Checks.told(THREE);
        for (int p = 0; p < 3; p++) Checks.due("parts " + p, x.parts(p), 4);
        x.measure();
        Checks.due("parts of 3, 5, 6 by bob and cid", x.parts(0), 3);
        Checks.due("one who knows of nobody", Checks.told(APART).parts(0), 1);
        for (int p : new int[] {-1, 3, 6, Integer.MAX_VALUE}) Checks.due("parts " + p, x.parts(p), -1);
        StinkhornParish y = Checks.told(TWO);
        Checks.due("alike", y.alike(0, 1), 1);
        Checks.due("alike", y.alike(1, 0), 1);
        Checks.due("one is like himself", y.alike(1, 1), 3);
        Checks.due("both neither is alike", Checks.told(APART).alike(0, 1), 3);
        for (int p : NOBODY) {
            Checks.due("alike " + p, y.alike(p, 0), -1);
            Checks.due("alike to " + p, y.alike(0, p), -1);
        }
    }

    private static void fatesAndTales() {
        StinkhornParish x = Checks.told(THREE + "fog 100;");
        int[] fate = {-1, 1, 1, 2, 1, 2, 2, 3};
        for (int w = 0; w < 8; w++) Checks.due("fate " + w, x.fate(w), fate[w]);
        for (int w : new int[] {-1, 8, 64, Integer.MAX_VALUE, Integer.MIN_VALUE}) {
            Checks.due("fate " + w, x.fate(w), -1);
            Checks.due("tale " + w, x.tale(w), -1);
        }
        Checks.due("latest", x.latest(), 7);
        Checks.due("tale 7", x.tale(7), 3);
        int[] tale = {0, 0, 7, -1};
        for (int i = 0; i < 4; i++) Checks.due("lies " + i, x.lies(i), tale[i]);
        Checks.due("lies -1", x.lies(-1), -1);
        Checks.due("lies there", x.about(12), 3);
        Checks.due("tale of an impossible world", x.tale(0), -1);
        Checks.due("nothing lies there", x.about(12), 0);
        Checks.due("nothing lies there", x.lies(0), -1);
        StinkhornParish none = Checks.told(APART);
        Checks.due("nine without an end", none.tale(1), 9);
        Checks.due("the ninth", none.lies(8), 0);
        Checks.due("no tenth", none.lies(9), -1);
        Checks.due("of like ones the least", none.latest(), 1);
        StinkhornParish far = Checks.told("person a keeps bears 9;");
        Checks.due("its fate", far.fate(1), 10);
        Checks.due("nine at the most", far.tale(1), 9);
        StinkhornParish ended = Checks.told(TWO);
        ended.morning();
        Checks.due("ended", ended.fate(1), 0);
        Checks.due("no mornings", ended.tale(1), 0);
        Checks.due("nothing", ended.about(12), 0);
        // World 0 ends at once, the others never: 1 is the least of these.
        Checks.due("no end is the latest", Checks.told("person a;person b;sign 1;").latest(), 1);
        // Those who owned own again in a tale.
        StinkhornParish again = Checks.told("person a keeps;person b keeps bears 2;sign many > 1;");
        Checks.due("three mornings", again.tale(3), 3);
        int[] owns = {1, 1, 3};
        for (int i = 0; i < 3; i++) Checks.due("owns again " + i, again.lies(i), owns[i]);
    }

    private static void bearing() {
        StinkhornParish x = Checks.told("person a keeps bears 2;person b keeps;sign many > 1;");
        Checks.due("b alone", x.morning(), 2);
        Checks.due("b again", x.morning(), 2);
        Checks.due("two have gone by", x.morning(), 3);
        // Silence of one who has to bear it tells nothing.
        StinkhornParish y = Checks.told("person a keeps bears 1;person b keeps;knows a b;knows b a;");
        Checks.due("first", y.morning(), 0);
        Checks.due("only world 2, where b would own, is gone", y.worlds(), 2);
        Checks.due("b is one", y.possible(2), 0);
        Checks.due("a sees b silent and owns", y.morning(), 1);
        Checks.due("a would have owned in world 1, too: b draws nothing from it", y.morning(), 1);
        Checks.due("b is still unsure", y.knows(1, 1), -1);
    }

    private static void fewestPegsAndSpies() {
        StinkhornParish x = Checks.told(APART);
        Checks.due("one peg", x.pegs(1, 0), 1);
        Checks.due("of a", x.pegs(1, 1), 1);
        Checks.due("not at once", x.pegs(0, 0), -1);
        Checks.due("what 2", x.pegs(1, 2), -1);
        Checks.due("what -1", x.pegs(1, -1), -1);
        Checks.due("n 10", x.pegs(10, 0), -1);
        Checks.due("n -1", x.pegs(-1, 0), -1);
        Checks.due("n 9", x.pegs(9, 0), 1);
        Checks.due("nothing was shown", x.worlds(), 3);
        Checks.due("none is needed", Checks.told(TWO).pegs(1, 0), 0);
        Checks.due("none is needed", Checks.told(TWO).pegs(1, 1), 0);
        StinkhornParish free = Checks.told("person a;person b keeps;person c keeps;sign 1;");
        Checks.due("both", free.pegs(1, 0), 2);
        Checks.due("both", free.pegs(1, 1), 6);
        Checks.due("bears too long", Checks.told("person a keeps bears 9;").pegs(9, 0), -1);
        Checks.due("not too long", Checks.told("person a keeps bears 8;").pegs(9, 0), 0);
        StinkhornParish y = Checks.told("person a keeps;person b;person c;knows a b;");
        Checks.due("one more", y.spy(0, 0), 1);
        Checks.due("c", y.spy(0, 1), 4);
        Checks.due("by none", y.spy(1, 0), -1);
        Checks.due("by none", y.spy(1, 1), -1);
        Checks.due("what 2", y.spy(0, 2), -1);
        Checks.due("what -1", y.spy(0, -1), -1);
        for (int p : new int[] {-1, 3, 6, Integer.MAX_VALUE}) Checks.due("spy " + p, y.spy(p, 0), -1);
        y.peg(0);
        Checks.due("he knows it", y.spy(0, 0), 0);
        Checks.due("that he is none counts, too", Checks.told("person a;").spy(0, 0), 0);
    }

    private static void within() {
        StinkhornParish x = Checks.told(THREE);
        int[] due = {-1, 2, 2, 2, 1, 1, 1, 0, 0};
        for (int n = 0; n < due.length; n++) Checks.due("within " + n, x.within(n), due[n]);
        Checks.due("within 64", x.within(64), 0);
        Checks.due("within 65", x.within(65), -1);
        Checks.due("within -1", x.within(-1), -1);
        Checks.due("never", Checks.told(APART).within(2), -1);
    }

    private static void odds() {
        StinkhornParish x = Checks.told("fog 30;");
        int[][] due = {{1, 1}, {7, 10}, {49, 100}, {343, 1000}, {2401, 10000}};
        for (int n = 0; n < 5; n++) {
            for (int part = 0; part < 2; part++) Checks.due("odds " + n + " " + part, x.odds(n, part), due[n][part]);
        }
        Checks.due("odds 5", x.odds(5, 0), -1);
        Checks.due("odds -1", x.odds(-1, 0), -1);
        Checks.due("part 2", x.odds(1, 2), -1);
        Checks.due("part -1", x.odds(1, -1), -1);
        x.morning();
        Checks.due("whatever the seed is", x.odds(2, 0), 49);
        StinkhornParish thick = Checks.told("fog 100;");
        Checks.due("never", thick.odds(3, 0), 0);
        Checks.due("of one", thick.odds(3, 1), 1);
        Checks.due("no morning", thick.odds(0, 0), 1);
        StinkhornParish dense = Checks.told("fog 98;");
        Checks.due("lowest terms", dense.odds(4, 0), 1);
        Checks.due("lowest terms", dense.odds(4, 1), 6250000);
        Checks.due("great numbers", Checks.told("fog 1;").odds(4, 0), 96059601);
        Checks.due("great numbers", Checks.told("fog 1;").odds(4, 1), 100000000);
        Checks.due("no fog", Checks.told("fog 0;").odds(4, 1), 1);
    }

    private static void seen() {
        // By truth: 0 nobody ever, 1 a from the first morning on, 2 b, 3 both from the second one on.
        StinkhornParish x = Checks.told(TWO);
        Checks.due("any", x.fits(0), 4);
        Checks.due("unsure", x.sure(0, 0), -2);
        Checks.due("its number", x.seen(1, 0, false), 0);
        Checks.due("not 1", x.fits(0), 3);
        Checks.due("its number", x.seen(2, 0, true), 1);
        Checks.due("3 alone", x.fits(0), 1);
        Checks.due("a", x.sure(0, 0), 1);
        Checks.due("b", x.sure(1, 0), 1);
        Checks.due("its number", x.seen(9, 1, false), 2);
        Checks.due("none", x.fits(0), 0);
        Checks.due("none fits", x.sure(0, 0), -1);
        Checks.due("none fits", x.next(1, 0, 0), -1);
        Checks.due("untell", x.untell(0), true);
        Checks.due("1 then", x.fits(0), 1);
        Checks.due("not b", x.sure(1, 0), 0);
        Checks.due("once only", x.untell(0), false);
        for (int i : new int[] {-1, 3, 30, Integer.MAX_VALUE, Integer.MIN_VALUE}) Checks.due("untell " + i, x.untell(i), false);
        for (int p : NOBODY) {
            Checks.due("seen of " + p, x.seen(1, p, true), -1);
            Checks.due("sure of " + p, x.sure(p, 0), -1);
        }
        for (int m : new int[] {0, 10, -1, Integer.MAX_VALUE}) Checks.due("seen on " + m, x.seen(m, 0, true), -1);
        Checks.due("three are seen", x.about(7), 3);
        for (int i = 3; i < 30; i++) Checks.due("seen", x.seen(1, 0, true), i);
        Checks.due("thirty", x.seen(1, 0, true), -1);
        Checks.due("untold ones are counted", x.untell(29), true);
        Checks.due("thirty still", x.seen(1, 0, true), -1);
        Checks.due("thirty", x.about(7), 30);
    }

    private static void seenInTwoTimes() {
        StinkhornParish x = Checks.told(TWO);
        Checks.due("later", x.later(10), 10);
        x.seen(1, 0, true);
        Checks.due("later", x.later(0), 10);
        Checks.due("later", x.later(5), 15);
        x.seen(1, 1, false);
        x.untell(0);
        x.later(5);
        Checks.due("at 9", x.fits(9), 4);
        Checks.due("at 10", x.fits(10), 1);
        Checks.due("at 14", x.fits(14), 1);
        Checks.due("at 15", x.fits(15), 3);
        Checks.due("at 20", x.fits(20), 3);
        Checks.due("far ahead", x.fits(Integer.MAX_VALUE), 3);
        Checks.due("before all", x.fits(-1), 4);
        Checks.due("long before all", x.fits(Integer.MIN_VALUE), 4);
        Checks.due("sure at 10", x.sure(0, 10), 1);
        Checks.due("sure at 15", x.sure(0, 15), -2);
        x.seen(1, 0, true);
        x.untell(2);
        Checks.due("told and untold at one time never counts", x.fits(20), 3);
        Checks.due("later by too much", x.later(1001), -1);
        Checks.due("later by less", x.later(-1), -1);
        for (int i = 0; i < 99; i++) x.later(1000);
        Checks.due("up to here", x.later(980), 100000);
        Checks.due("no further", x.later(1), -1);
        Checks.due("here", x.later(0), 100000);
        Checks.due("time", x.about(8), 100000);
    }

    private static void whatWasDoneDoesNotCount() {
        StinkhornParish x = Checks.told("person a keeps;person b;knows a b;fog 100;");
        x.whisper(1, 0);
        x.peg(0);
        x.morning();
        x.seen(1, 1, true);
        // As told b knows of nobody, so he never owns.
        Checks.due("no such truth", x.fits(0), 0);
        x.untell(0);
        x.seen(1, 0, true);
        Checks.due("a saw that b is none", x.fits(0), 1);
        Checks.due("no fog", x.sure(1, 0), 0);
        x.undo();
        Checks.due("what is seen stays", x.about(7), 2);
    }

    private static void next() {
        StinkhornParish x = Checks.told(TWO);
        Checks.due("first morning: 1 of 4 either way", x.next(1, 0, 0), 0);
        Checks.due("three at the most", x.next(1, 1, 0), 3);
        Checks.due("second morning: halves", x.next(2, 1, 0), 2);
        x.seen(2, 0, true);
        Checks.due("1 or 3: a tells nothing more", x.next(2, 0, 0), 1);
        Checks.due("one at the most", x.next(2, 1, 0), 1);
        Checks.due("before it was told", x.next(2, 0, -1), 0);
        Checks.due("ninth", x.next(9, 0, 0), 1);
        for (int m : new int[] {0, 10, -1, Integer.MAX_VALUE}) Checks.due("next on " + m, x.next(m, 0, 0), -1);
        Checks.due("what 2", x.next(1, 2, 0), -1);
        Checks.due("what -1", x.next(1, -1, 0), -1);
        Checks.due("nobody", new StinkhornParish().next(1, 1, 0), -1);
    }

    private static void images() {
        StinkhornParish x = Checks.told(TWO + "draw 5;");
        x.whisper(0, 1);
        Checks.due("image", x.image(2), 0);
        x.morning();
        Checks.due("image", x.image(0), 1);
        int seed = x.about(4);
        x.morning();
        x.undo();
        Checks.due("back", x.back(2), 0);
        Checks.due("worlds", x.worlds(), 3);
        Checks.due("owned", x.about(2), 0);
        Checks.due("seed", x.about(4), 5);
        Checks.due("no acts", x.about(5), 0);
        Checks.due("none to be redone", x.about(6), 0);
        Checks.due("redo", x.redo(), false);
        Checks.due("back", x.back(0), 1);
        Checks.due("owned", x.about(2), 1);
        Checks.due("seed", x.about(4), seed);
        Checks.due("goes on from there", x.morning(), 1);
        Checks.due("still kept", x.back(0), 1);
        Checks.due("nothing was kept", x.back(1), -1);
        x.morning();
        Checks.due("kept anew", x.image(0), 2);
        Checks.due("back", x.back(0), 2);
        for (int box : new int[] {-1, 3, Integer.MAX_VALUE, Integer.MIN_VALUE}) {
            Checks.due("image " + box, x.image(box), -1);
            Checks.due("back " + box, x.back(box), -1);
        }
        StinkhornParish y = Checks.told(APART);
        y.image(0);
        y.whisper(1, 0);
        Checks.due("back of one to nothing doing nothing", y.back(2), -1);
        Checks.due("the act stays", y.about(5), 1);
        y.back(0);
        Checks.due("who knows of whom is kept, too", y.person(1, 3), 0);
    }

    private static void about() {
        StinkhornParish x = Checks.told(THREE + "sign (many) + 1 - 1;fog 20;draw 77;");
        x.morning();
        x.measure();
        x.undo();
        x.seen(1, 1, true);
        x.later(4);
        x.tale(3);
        x.feed(1, 2, 3, 4, 5);
        int[] due = {3, 3, 0, 1, (77 * 137 + 71) % 1000, 1, 1, 1, 4, 20, 4, 20, x.about(12)};
        for (int what = 0; what < due.length; what++) Checks.due("about " + what, x.about(what), due[what]);
        for (int what : new int[] {-1, 13, Integer.MAX_VALUE, Integer.MIN_VALUE}) Checks.due("about " + what, x.about(what), -1);
    }

    private static void sixOfThem() {
        StringBuilder b = new StringBuilder();
        for (int i = 0; i < 6; i++) b.append("person ").append((char) ('a' + i)).append(" shame ").append(9 - i).append(" bears ").append(3 + i).append(";");
        StinkhornParish x = Checks.told(b + "sign shame > 4;");
        for (int i = 0; i < 6; i++) {
            Checks.due("shame of " + i, x.person(i, 1), 9 - i);
            Checks.due("bears of " + i, x.person(i, 2), 3 + i);
        }
        Checks.due("f alone is not above 4", x.sign(32), 0);
        Checks.due("e alone is", x.sign(16), 1);
        Checks.due("no such world", x.sign(64), -1000000000);
        // All but one see all others: the one whisper that is left brings the end.
        StinkhornParish y = Checks.told(six("keeps").replace("knows f b;", ""));
        Checks.due("no end, or a later one", y.ending() == -1 || y.ending() > 6, true);
        int[] hint = {5, 1, 6};
        for (int what = 0; what < 3; what++) Checks.due("hint " + what, y.hint(what), hint[what]);
        // Once one keeper is shown the sign tells the others nothing more: all have to be shown.
        Checks.due("all six", Checks.told(six("keeps")).pegs(2, 0), 6);
        Checks.due("all six", Checks.told(six("keeps")).pegs(5, 1), 63);
        Checks.due("none", Checks.told(six("keeps")).pegs(6, 1), 0);
    }

    private static void likeOnes() {
        StinkhornParish x = Checks.told(THREE);
        x.peg(2);
        Checks.due("a measuring leaves what was left", x.measure(), 1);
        Checks.due("both are unsure", Checks.told(APART).unsure(), 3);
        StinkhornParish mirrored = Checks.told("person b;person a keeps;knows a b;knows b a;");
        Checks.due("of b they do not know alike", mirrored.alike(0, 1), 2);
        Checks.due("the second one", mirrored.call(0), 1);
        Checks.due("settled", mirrored.settled(), 2);
        StinkhornParish apart = Checks.told("person b;person a keeps;person c;");
        Checks.due("wronged by a", apart.wronged(), 5);
        StinkhornParish pair = Checks.told("person b;person a keeps;");
        int[] hint = {1, 0, 1};
        for (int what = 0; what < 3; what++) Checks.due("hint " + what, pair.hint(what), hint[what]);
        StinkhornParish three = Checks.told("person b;person a keeps;person c;knows a b;knows b c;");
        int[] meeting = {0, 1, 1};
        for (int what = 0; what < 3; what++) Checks.due("meeting " + what, three.meeting(what), meeting[what]);
        StinkhornParish both = Checks.told(APART.replace("person b", "person b keeps"));
        both.peg(0);
        both.peg(1);
        Checks.due("both are common", both.common(), 3);
        StinkhornParish y = Checks.told(THREE);
        y.morning();
        Checks.due("within from now on", y.within(1), 1);
        y.morning();
        Checks.due("ended: no peg is needed", y.pegs(0, 0), 0);
        Checks.due("one part, of world 0, too", Checks.told("person a;person b;knows a b;").parts(0), 1);
    }

    /** More calls than an object is promised for, but there is no other way to get there. */
    private static void theLastMorning() {
        StinkhornParish x = Checks.told(THREE + "fog 100;");
        int gone = 0;
        while (gone < 2000 && x.morning() != -1) gone++;
        Checks.due("mornings", gone, 999);
        Checks.due("nothing was done", x.about(3), 999);
        Checks.due("what lies ahead goes on", x.ending(), 2);
        Checks.due("and on", x.will(2, 0), 3);
    }
}
