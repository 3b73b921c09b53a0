import java.lang.reflect.Method;
import java.lang.reflect.Modifier;
import java.util.ArrayList;
import java.util.Comparator;
import java.util.List;
import java.util.Random;

/** Random runs of calls: the class and the plain model must answer the same, whatever is called. */
public final class ModelTests {
    private static final int[] ODD = {Integer.MIN_VALUE, Integer.MAX_VALUE, -2, -1, 63, 64, 65, 99, 100, 999, 1000, 1001, 30, 31, 9, 10, 40};
    private static final List<Method> FACE = new ArrayList<>();
    private static final List<Method> PLAIN = new ArrayList<>();

    public static void main(String[] args) throws Exception {
        for (Method m : StinkhornParish.class.getDeclaredMethods()) {
            if (Modifier.isPublic(m.getModifiers()) && !m.getName().equals("feed") && !m.getName().equals("end")
                && !m.getName().equals("parish")) FACE.add(m);
        }
        FACE.sort(Comparator.comparing(Method::getName));
        for (Method m : FACE) {
            Method plain = PlainParish.class.getDeclaredMethod(m.getName(), m.getParameterTypes());
            PLAIN.add(plain);
        }
        long seed = args.length > 0 ? Long.parseLong(args[0]) : 1;
        int runs = args.length > 1 ? Integer.parseInt(args[1]) : 1500;
        for (int i = 0; i < runs && !Checks.anyWrong(); i++) run(seed * 1000003 + i, i);
        texts(seed, 30000);
        Checks.done();
    }

    private static void run(long seed, int number) throws Exception {
        Random random = new Random(seed);
        RandomTexts texts = new RandomTexts(random);
        StinkhornParish x = new StinkhornParish();
        PlainParish y = new PlainParish();
        int most = number % 25 == 0 ? 6 : number % 5 == 0 ? 5 : 4;
        int calls = most == 6 ? 150 : 380;
        StringBuilder told = new StringBuilder();
        for (int c = 0; c < calls && !Checks.anyWrong(); c++) {
            if (c == 0 && random.nextInt(20) > 0 || random.nextInt(150) == 0) {
                String text = random.nextInt(6) == 0 ? texts.spoilt(most) : texts.good(most);
                tell(x, y, text, "run " + seed + " call " + c + " [" + text + "] ");
                told.append("[").append(text).append("] ");
            }
            int which = random.nextInt(FACE.size() + 25);
            Method m = which < FACE.size() ? FACE.get(which) : act(random);
            Object[] a = arguments(m, random);
            String call = m.getName() + java.util.Arrays.toString(a) + " ";
            told.append(call);
            Object got = m.invoke(x, a);
            Object want = PLAIN.get(FACE.indexOf(m)).invoke(y, a);
            Checks.due("run " + seed + ": " + told, number(got), number(want));
        }
    }

    private static Method act(Random random) {
        String[] acts = {"morning", "morning", "morning", "whisper", "whisper", "peg", "ask", "measure", "undo", "redo", "seen", "seen", "later", "untell", "image", "back"};
        String name = acts[random.nextInt(acts.length)];
        for (Method m : FACE) if (m.getName().equals(name)) return m;
        throw new IllegalStateException(name);
    }

    private static long number(Object answer) {
        return answer instanceof Boolean ? ((Boolean) answer ? 1 : 0) : ((Integer) answer).longValue();
    }

    private static Object[] arguments(Method m, Random random) {
        Object[] a = new Object[m.getParameterCount()];
        for (int i = 0; i < a.length; i++) {
            if (m.getParameterTypes()[i] == boolean.class) a[i] = random.nextInt(3) == 0;
            else if (random.nextInt(25) == 0) a[i] = ODD[random.nextInt(ODD.length)];
            else a[i] = random.nextInt(m.getParameterCount() == 1 ? 1 + random.nextInt(70) : 7);
        }
        if (m.getName().equals("seen") && random.nextInt(10) > 0) a[0] = 1 + random.nextInt(4);
        if ((m.getName().equals("peg") || m.getName().equals("ask")) && random.nextInt(10) > 0) a[0] = random.nextInt(5);
        if (m.getParameterCount() == 2 && random.nextInt(2) == 0) a[1] = random.nextInt(2);
        return a;
    }

    private static void tell(StinkhornParish x, PlainParish y, String text, String where) {
        for (int i = 0; i < text.length(); i += 20) {
            int got = x.feed(Checks.four(text, i), Checks.four(text, i + 4), Checks.four(text, i + 8), Checks.four(text, i + 12), Checks.four(text, i + 16));
            int want = y.feed(Checks.four(text, i), Checks.four(text, i + 4), Checks.four(text, i + 8), Checks.four(text, i + 12), Checks.four(text, i + 16));
            Checks.due(where + "feed", got, want);
        }
        int bytes = y.about(9) - (20 - text.length() % 20) % 20;
        Checks.due(where + "end", x.end(bytes), y.end(bytes));
        Checks.due(where + "parish", x.parish(), y.parish());
        Checks.due(where + "fault(0)", x.fault(0), y.fault(0));
        Checks.due(where + "fault(1)", x.fault(1), y.fault(1));
        // A tape with a fault stays; cleared here, so that what follows has a chance.
        Checks.due(where + "end(0)", x.end(0), y.end(0));
    }

    private static void texts(long seed, int many) {
        Random random = new Random(seed);
        RandomTexts texts = new RandomTexts(random);
        int[] faults = new int[6];
        StinkhornParish x = new StinkhornParish();
        PlainParish y = new PlainParish();
        for (int i = 0; i < many && !Checks.anyWrong(); i++) {
            String text;
            switch (random.nextInt(4)) {
                case 0: text = texts.good(6); break;
                case 1: text = texts.mixed(); break;
                case 2: text = texts.longSign(); break;
                default: text = texts.spoilt(6); break;
            }
            tell(x, y, text, "[" + text + "] ");
            faults[y.fault(0)]++;
            for (int what : new int[] {0, 1, 4, 10, 11}) Checks.due("[" + text + "] about " + what, x.about(what), y.about(what));
            for (int w = 0; w < 4; w++) Checks.due("[" + text + "] sign " + w, x.sign(w), y.sign(w));
        }
        System.out.println("texts by their faults: " + java.util.Arrays.toString(faults));
    }
}
