import java.lang.reflect.Method;
import java.lang.reflect.Modifier;
import java.util.ArrayList;
import java.util.Arrays;
import java.util.Comparator;
import java.util.List;

/**
 * Each call with all numbers around each of its edges, in parishes of each size: the class and the
 * plain model must answer the same, and be the same behind it.
 */
public final class GridTests {
    private static final int[] SMALL = {Integer.MIN_VALUE, -2, -1, 0, 1, 2, 3, 4, 5, 6, 7, Integer.MAX_VALUE};
    private static final int[] GREAT = {8, 9, 10, 11, 12, 13, 14, 15, 16, 17, 29, 30, 31, 32, 33, 62, 63, 64, 65, 98, 99, 100, 101, 999, 1000, 1001, 1601};
    private static final List<String> ACTS = List.of("morning", "measure", "ask", "peg", "whisper", "undo", "redo", "seen", "untell", "later", "image",
        "back", "tale");

    public static void main(String[] args) throws Exception {
        List<Method> face = new ArrayList<>();
        for (Method m : StinkhornParish.class.getDeclaredMethods()) {
            boolean text = List.of("feed", "end", "parish").contains(m.getName());
            if (Modifier.isPublic(m.getModifiers()) && !text) face.add(m);
        }
        face.sort(Comparator.comparing(Method::getName));
        for (int n = 0; n <= 6; n++) {
            String[] texts = {Parishes.full(n, Parishes.all(n), " bears 2") + "fog 40;draw 3;", Parishes.apart(n, Parishes.all(n) & 5) + "sign many%3+first;",
                Parishes.full(n, Parishes.all(n) & 1).replace("knows b a;", "").replace("knows c a;", "") + "sign many<5;"};
            for (int past = 0; past < 3; past++) {
                if (n == 6 && past == 1) continue;
                for (Method m : face) calls(m, texts[past], past);
            }
        }
        Checks.done();
    }

    private static void calls(Method m, String text, int past) throws Exception {
        Method plain = PlainParish.class.getDeclaredMethod(m.getName(), m.getParameterTypes());
        boolean act = ACTS.contains(m.getName());
        StinkhornParish x = null;
        PlainParish y = null;
        int calls = 0;
        for (Object[] a : grid(m)) {
            // An object is promised for 512 calls; behind one that may do something another one is taken.
            if (x == null || act || calls == 400) {
                x = new StinkhornParish();
                y = new PlainParish();
                Checks.sentence = text + " past " + past;
                live(x, y, text, past);
                calls = 0;
            }
            calls++;
            String call = m.getName() + Arrays.toString(a);
            Checks.due(call, number(m.invoke(x, a)), number(plain.invoke(y, a)));
            if (act) compare(call, x, y);
        }
        compare(m.getName(), x, y);
    }

    private static void live(StinkhornParish x, PlainParish y, String text, int past) {
        Checks.tape(x, text);
        Checks.due("people", x.parish(), told(y, text));
        if (past == 0) return;
        int[] got = {x.later(3), x.seen(1, 0, true), x.later(3), x.seen(2, 1, false), x.image(1), x.whisper(1, 0), x.morning(), x.peg(2), x.tale(1), x.ask(0)};
        int[] want = {y.later(3), y.seen(1, 0, true), y.later(3), y.seen(2, 1, false), y.image(1), y.whisper(1, 0), y.morning(), y.peg(2), y.tale(1), y.ask(0)};
        for (int i = 0; i < got.length; i++) Checks.due("past call " + i, got[i], want[i]);
        if (past == 1) {
            Checks.due("undo", x.undo(), y.undo());
            Checks.due("untell", x.untell(0), y.untell(0));
        }
    }

    private static int told(PlainParish y, String text) {
        for (int i = 0; i < text.length(); i += 20) {
            y.feed(Checks.four(text, i), Checks.four(text, i + 4), Checks.four(text, i + 8), Checks.four(text, i + 12), Checks.four(text, i + 16));
        }
        y.end(text.length());
        return y.parish();
    }

    private static void compare(String call, StinkhornParish x, PlainParish y) {
        for (int what = 0; what <= 12; what++) Checks.due(call + " then about " + what, x.about(what), y.about(what));
        Checks.due(call + " then worlds", x.worlds(), y.worlds());
        for (int p = 0; p < x.about(0); p++) Checks.due(call + " then person " + p, x.person(p, 3), y.person(p, 3));
        for (int i = 0; i < x.about(12); i++) Checks.due(call + " then lies " + i, x.lies(i), y.lies(i));
        boolean told = call.startsWith("seen") || call.startsWith("untell") || call.startsWith("later");
        for (int k = 0; told && k < 8; k++) Checks.due(call + " then fits " + k, x.fits(k), y.fits(k));
    }

    private static List<Object[]> grid(Method m) {
        List<Object[]> all = new ArrayList<>();
        all.add(new Object[0]);
        Class<?>[] types = m.getParameterTypes();
        for (int i = 0; i < types.length; i++) {
            List<Object[]> more = new ArrayList<>();
            for (Object[] before : all) {
                for (Object value : values(types[i], types.length)) {
                    Object[] a = Arrays.copyOf(before, before.length + 1);
                    a[before.length] = value;
                    more.add(a);
                }
            }
            all = more;
        }
        return all;
    }

    private static List<Object> values(Class<?> type, int many) {
        List<Object> all = new ArrayList<>();
        if (type == boolean.class) return List.of(true, false);
        for (int v : SMALL) if (many < 3 || v > -2 && v < 5) all.add(v);
        for (int v : GREAT) if (many == 1 || many == 2 && (v == 9 || v == 10 || v == 30 || v == 31) || many == 3 && (v == 9 || v == 10)) all.add(v);
        return all;
    }

    private static long number(Object answer) {
        return answer instanceof Boolean ? ((Boolean) answer ? 1 : 0) : ((Integer) answer).longValue();
    }
}
