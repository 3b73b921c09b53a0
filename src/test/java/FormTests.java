import java.lang.reflect.Constructor;
import java.lang.reflect.Field;
import java.lang.reflect.Method;
import java.lang.reflect.Modifier;
import java.nio.file.Files;
import java.nio.file.Path;
import java.util.HashMap;
import java.util.Map;
import java.util.Set;
import java.util.TreeSet;
import java.util.regex.Matcher;
import java.util.regex.Pattern;

/** The public face of the document, the rules of the language that can be looked at, the room. */
public final class FormTests {
    public static void main(String[] args) throws Exception {
        face();
        rules(Files.readString(Path.of("src/main/java/StinkhornParish.java")));
        room();
        Checks.done();
    }

    private static void face() throws Exception {
        Set<String> due = new TreeSet<>();
        String doc = Files.readString(Path.of("../shared/DOC.md"));
        Matcher lines = Pattern.compile("^    public (int|boolean) (\\w+)\\((.*)\\);$", Pattern.MULTILINE).matcher(doc);
        while (lines.find()) {
            String types = lines.group(3).isEmpty() ? "" : lines.group(3).replaceAll("(int|boolean) \\w+", "$1");
            due.add(lines.group(1) + " " + lines.group(2) + "(" + types + ")");
        }
        Set<String> is = new TreeSet<>();
        for (Method m : StinkhornParish.class.getDeclaredMethods()) {
            boolean open = Modifier.isPublic(m.getModifiers());
            Checks.due(m + " is public or private", open || Modifier.isPrivate(m.getModifiers()), true);
            StringBuilder types = new StringBuilder();
            for (Class<?> t : m.getParameterTypes()) types.append(types.length() == 0 ? "" : ", ").append(t);
            if (open) is.add(m.getReturnType() + " " + m.getName() + "(" + types + ")");
        }
        System.out.println(is.size() + " public methods");
        Checks.due("methods of the face: 61", is.size(), 61);
        for (String m : due) Checks.due(m + " is there", is.contains(m), true);
        for (String m : is) Checks.due(m + " is told", due.contains(m), true);
        Checks.due("final", Modifier.isFinal(StinkhornParish.class.getModifiers()), true);
        Constructor<?>[] made = StinkhornParish.class.getDeclaredConstructors();
        Checks.due("one constructor", made.length, 1);
        Checks.due("without arguments", made[0].getParameterCount(), 0);
        for (Field f : StinkhornParish.class.getDeclaredFields()) {
            boolean ok = f.getName().equals("NONE") || Modifier.isPrivate(f.getModifiers());
            Checks.due("private " + f, ok, true);
            boolean fixed = !Modifier.isStatic(f.getModifiers()) || Modifier.isFinal(f.getModifiers());
            Checks.due("static and final " + f, fixed, true);
        }
    }

    private static void rules(String source) {
        String code = source.replaceAll("(?s)/\\*.*?\\*/", "").replaceAll("//[^\n]*", "").replaceAll("\"[^\"\n]*\"", "\"\"");
        for (String word : new String[] {"throw", "throws", "try", "catch", "synchronized", "assert", "import", "package", "float",
            "double", "Object", "hashCode", "System\\.(?!arraycopy)\\w+", "Exact", "native", "volatile", "null"}) {
            Checks.due("no " + word, Pattern.compile("\\b" + word + "\\b").matcher(code).find(), false);
        }
        Checks.due("no lambda", code.contains("->"), false);
        Checks.due("no method reference", code.contains("::"), false);
        Checks.due("no other characters", source.chars().allMatch(c -> c == '\n' || c >= 32 && c < 127), true);
        int classes = 0;
        Matcher heads = Pattern.compile("^ *(public|private static) final class \\w+ \\{$", Pattern.MULTILINE).matcher(code);
        while (heads.find()) classes++;
        Checks.due("all classes are final, the inner ones private and static", classes, count(code, "\\bclass\\b"));
        Checks.due("at most twelve classes", classes <= 12, true);
        methods(code.split("\n"));
        fields(code.split("\n"));
    }

    private static int count(String code, String pattern) {
        Matcher m = Pattern.compile(pattern).matcher(code);
        int many = 0;
        while (m.find()) many++;
        return many;
    }

    private static void methods(String[] lines) {
        Pattern head = Pattern.compile("^( +)(public|private)[\\w\\[\\] ]* (\\w+)\\((.*)\\) \\{$");
        Set<String> open = new TreeSet<>();
        Set<String> closed = new TreeSet<>();
        for (int i = 0; i < lines.length; i++) {
            Matcher m = head.matcher(lines[i]);
            if (!m.matches()) continue;
            (m.group(2).equals("public") ? open : closed).add(m.group(3));
            Checks.due(m.group(3) + " takes at most seven", m.group(4).split(",").length <= 7, true);
            int end = i;
            while (end < lines.length && !lines[end].equals(m.group(1) + "}")) end++;
            Checks.due(m.group(3) + " is short: " + (end - i), end - i <= 45, true);
        }
        Checks.due("methods were found", open.size(), 62);
        for (String name : closed) Checks.due("no private method bears a public name: " + name, open.contains(name), false);
    }

    private static void fields(String[] lines) {
        Map<String, Integer> many = new HashMap<>();
        String in = "";
        for (String line : lines) {
            Matcher head = Pattern.compile("^ *.*class (\\w+) \\{$").matcher(line);
            if (head.matches()) in = head.group(1);
            if (line.matches("^ {4,8}private (final )?[\\w\\[\\]]+ \\w+( = .*)?;$")) many.merge(in, 1, Integer::sum);
        }
        for (String name : many.keySet()) Checks.due(name + " has at most twenty fields: " + many.get(name), many.get(name) <= 20, true);
    }

    /** What calls make is measured: nothing at all, as all rows are made with the object. */
    private static void room() {
        com.sun.management.ThreadMXBean bean = (com.sun.management.ThreadMXBean) java.lang.management.ManagementFactory.getThreadMXBean();
        StinkhornParish x = new StinkhornParish();
        int[] text = new int[5];
        callAll(x, text);
        long id = Thread.currentThread().getId();
        bean.getThreadAllocatedBytes(id);
        long before = bean.getThreadAllocatedBytes(id);
        for (int i = 0; i < 5; i++) callAll(x, text);
        long made = bean.getThreadAllocatedBytes(id) - before;
        Checks.due("bytes made by calls (" + made + ") are few", made < 2000, true);
    }

    private static void callAll(StinkhornParish x, int[] t) {
        x.end(0);
        x.feed(0x70657273, 0x6f6e2061, 0x206b6565, 0x70733b20, 0x20202020);
        x.feed(0x70657273, 0x6f6e2062, 0x206b6565, 0x70733b20, 0x20202020);
        x.feed(0x7369676e, 0x20286d61, 0x6e79293b, 0x20202020, 0x20202020);
        x.parish();
        x.morning(); x.measure(); x.ask(0); x.peg(0); x.whisper(0, 1); x.undo(); x.redo(); x.knows(0, 1); x.knowsIn(3, 0, 1);
        x.depth(0); x.common(); x.open(0); x.ending(); x.first(); x.will(30, 1); x.worldsAt(30); x.group(0, 0); x.call(0);
        x.hint(0); x.pin(0); x.thinks(0, 1); x.wronged(); x.settled(); x.wisest(); x.talked(); x.reach(0, 1); x.least(1);
        x.suspected(0); x.law(0); x.bet(0, 1, 0); x.shared(0, 9); x.parts(0); x.alike(0, 1); x.fate(3); x.latest(); x.tale(3);
        x.quiet(); x.pegs(3, 0); x.spy(0, 0); x.meeting(0); x.unsure(); x.within(1); x.lies(0); x.odds(4, 0); x.seen(1, 0, true);
        x.untell(0); x.later(1); x.fits(0); x.sure(0, 0); x.next(1, 0, 0); x.image(0); x.back(0); x.about(0); x.fault(0);
        x.person(0, 0); x.sign(0); x.possible(0); x.worlds();
    }
}
