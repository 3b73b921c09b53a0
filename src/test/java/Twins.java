import java.util.ArrayList;
import java.util.List;

/**
 * Two objects with the same past, of which one is called once more: if that call does nothing, no
 * later call may show a difference. What is shown includes what can only be seen by going on (what
 * is undone and redone, what lies in boxes and on the tape), so an object is used up by it.
 */
final class Twins {
    interface Past { void of(StinkhornParish x); }

    interface Call { int on(StinkhornParish x); }

    /** Three, of whom two keep something; acts that can be undone and one to be redone; two seen. */
    static final String TEXT = "person a keeps shame 2;person b keeps bears 1;person c;"
        + "knows a b;knows b a;knows c a;fog 30;draw 7;sign many*2;";

    private Twins() { }

    static void eventful(StinkhornParish x) {
        Checks.tape(x, TEXT);
        x.parish();
        x.later(5);
        x.seen(1, 0, true);
        x.untell(0);
        x.seen(2, 1, false);
        x.image(1);
        x.morning();
        x.peg(2);
        x.tale(3);
        x.whisper(0, 2);
        x.image(0);
        x.morning();
        x.undo();
        Checks.tape(x, "person z keeps;fog 9;");
    }

    /** No room is left for anything more. */
    static void full(StinkhornParish x) {
        Checks.tape(x, TEXT);
        x.parish();
        for (int i = 0; i < 41; i++) x.morning();
        for (int i = 0; i < 30; i++) x.seen(1 + i % 9, i % 3, i % 2 == 0);
        Checks.tape(x, "person y keeps;" + " ".repeat(1585));
    }

    static void unmoved(String call, Past past, Call more, int answer) {
        StinkhornParish one = new StinkhornParish();
        StinkhornParish other = new StinkhornParish();
        past.of(one);
        past.of(other);
        Checks.due(call, more.on(other), answer);
        alike(call, show(one, true), show(other, true));
    }

    /** The same, but for what fault tells. */
    static void unmovedButForFault(String call, Past past, Call more, int answer) {
        StinkhornParish one = new StinkhornParish();
        StinkhornParish other = new StinkhornParish();
        past.of(one);
        past.of(other);
        Checks.due(call, more.on(other), answer);
        alike(call, show(one, false), show(other, false));
    }

    private static void alike(String call, List<Integer> one, List<Integer> other) {
        Checks.due(call + ": as many answers", other.size(), one.size());
        for (int i = 0; i < Math.min(one.size(), other.size()); i++) {
            if (!one.get(i).equals(other.get(i))) Checks.due(call + " left its trace in answer " + i, other.get(i), one.get(i));
        }
    }

    static int truth(boolean is) {
        return is ? 1 : 0;
    }

    private static List<Integer> show(StinkhornParish x, boolean withFault) {
        List<Integer> all = new ArrayList<>();
        for (int what = 0; what <= 12; what++) all.add(x.about(what));
        for (int what = 0; what < 2 && withFault; what++) all.add(x.fault(what));
        int people = Math.min(3, x.about(0));
        for (int p = 0; p < people; p++) {
            for (int what = 0; what < 5; what++) all.add(x.person(p, what));
            for (int o = 0; o < people; o++) all.add(x.knows(p, o));
        }
        for (int w = 0; w < 8; w++) {
            all.add(x.sign(w));
            all.add(x.possible(w));
        }
        for (int i = 0; i < 10; i++) all.add(x.lies(i));
        for (int k = -1; k < 8; k++) all.add(x.fits(k));
        all.add(x.will(1, 1));
        for (int i = 0; i < 3; i++) all.add(truth(x.untell(i)));
        all.add(x.fits(100000));
        goThroughActs(x, all);
        goThroughBoxes(x, all);
        all.add(x.seen(1, 0, true));
        all.add(x.later(0));
        all.add(x.later(1));
        all.add(x.feed(0x20202020, 0x20202020, 0x20202020, 0x20202020, 0x20202020));
        all.add(x.parish());
        all.add(x.about(1));
        all.add(x.about(11));
        return all;
    }

    private static void goThroughActs(StinkhornParish x, List<Integer> all) {
        for (int i = 0; i < 41 && x.redo(); i++) brief(x, all);
        for (int i = 0; i < 41 && x.undo(); i++) brief(x, all);
        brief(x, all);
    }

    private static void brief(StinkhornParish x, List<Integer> all) {
        all.add(x.about(3));
        all.add(x.worlds());
        all.add(x.person(0, 3));
    }

    private static void goThroughBoxes(StinkhornParish x, List<Integer> all) {
        for (int box = 0; box < 3; box++) {
            all.add(x.back(box));
            for (int what = 2; what <= 6; what++) all.add(x.about(what));
            brief(x, all);
        }
    }
}
