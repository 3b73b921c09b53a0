import java.util.ArrayList;
import java.util.Collections;
import java.util.List;
import java.util.Random;

/** Texts of parishes: most without a fault, some spoilt a little. */
final class RandomTexts {
    private static final String[] NAMES = {"a", "bob", "cid", "e", "parish", "abcdefgh", "many", "dora", "line"};
    private static final String[] SNIPS = {"person ", "keeps", "shame 3", "bears 12", "knows ", "sign ", "fog 100;", "draw 999;",
        "or", "and", "not ", "many", "first", "last", "people", "(", ")", ";", "<", ">", "=", "+", "-", "*", "/", "%", "0",
        "9", "10", "1000", "10000", "12a", "abcdefghi", "A", "\n", " ", "\t", "\u00e9", "zoe", "a", "bob", "fog 101;", "draw 1000;"};
    private final Random random;

    RandomTexts(Random random) {
        this.random = random;
    }

    String good(int mostPeople) {
        int people = random.nextInt(mostPeople + 1);
        List<String> names = new ArrayList<>(List.of("a", "bob", "cid", "e", "parish", "abcdefgh"));
        Collections.shuffle(names, random);
        int signAt = random.nextInt(3);
        StringBuilder b = new StringBuilder();
        if (signAt == 0) sign(b);
        if (random.nextInt(3) == 0) b.append("fog").append(random.nextBoolean() ? "" : " ").append(random.nextInt(101)).append(";");
        for (int i = 0; i < people; i++) {
            b.append("person ").append(names.get(i));
            if (random.nextInt(2) == 0) b.append(" keeps");
            if (random.nextInt(3) == 0) b.append(" shame ").append(random.nextInt(10));
            if (random.nextInt(4) == 0) b.append(" bears ").append(random.nextInt(10));
            b.append(random.nextInt(5) == 0 ? "\n;" : ";");
        }
        if (signAt == 1) sign(b);
        int often = 1 + random.nextInt(10);
        for (int i = 0; i < people; i++) {
            for (int j = 0; j < people; j++) {
                if (i != j && random.nextInt(10) < often) b.append("knows ").append(names.get(i)).append(" ").append(names.get(j)).append(";");
            }
        }
        if (random.nextInt(2) == 0) b.append("draw ").append(random.nextInt(1000)).append(";");
        return b.toString();
    }

    private void sign(StringBuilder b) {
        b.append("sign ");
        b.append(random.nextInt(4) == 0 ? scattered() : e(2)).append(";");
    }

    /** Up in worlds that have nothing to do with one another: what is drawn from silence is long then. */
    private String scattered() {
        int modulus = 2 + random.nextInt(50);
        return (random.nextBoolean() ? "not " : "") + "(shame*" + (1 + random.nextInt(9999)) + "+many*" + random.nextInt(100) + "+last)%" + modulus
            + "<>".charAt(random.nextInt(2)) + random.nextInt(modulus) + (random.nextBoolean() ? " or first*" + random.nextInt(10) + "=last" : "");
    }

    private String e(int deep) {
        switch (random.nextInt(deep == 0 ? 6 : 14)) {
            case 0: return Integer.toString(random.nextInt(random.nextBoolean() ? 4 : 10000));
            case 1: return "many";
            case 2: return "shame";
            case 3: return "first";
            case 4: return "last";
            case 5: return "people";
            case 6: return "(" + e(deep - 1) + ")";
            case 7: return "not " + e(deep - 1);
            case 8: return e(deep - 1) + " and " + e(deep - 1);
            case 9: return e(deep - 1) + " or " + e(deep - 1);
            case 10: return "(" + e(deep - 1) + ")" + "<>=".charAt(random.nextInt(3)) + "(" + e(deep - 1) + ")";
            default: return "(" + e(deep - 1) + ")" + "+-*/%".charAt(random.nextInt(5)) + "(" + e(deep - 1) + ")";
        }
    }

    String spoilt(int mostPeople) {
        StringBuilder b = new StringBuilder(good(mostPeople));
        int times = 1 + random.nextInt(3);
        for (int i = 0; i < times; i++) {
            int at = random.nextInt(b.length() + 1);
            switch (random.nextInt(4)) {
                case 0: b.setLength(at); break;
                case 1: b.insert(at, SNIPS[random.nextInt(SNIPS.length)]); break;
                case 2: b.delete(at, Math.min(b.length(), at + 1 + random.nextInt(4))); break;
                default: b.append(b.substring(0, at)); break;
            }
        }
        return b.length() > 1500 ? b.substring(0, 1500) : b.toString();
    }

    /** Snippets without much sense: most have a fault, each in its own place. */
    String mixed() {
        StringBuilder b = new StringBuilder();
        int many = random.nextInt(12);
        b.append(random.nextInt(3) == 0 ? "" : random.nextBoolean() ? "sign " : "person bob;person zoe;");
        for (int i = 0; i < many; i++) {
            b.append(random.nextInt(8) == 0 ? NAMES[random.nextInt(NAMES.length)] : SNIPS[random.nextInt(SNIPS.length)]);
            if (random.nextInt(3) == 0) b.append(" ");
        }
        return b.toString();
    }

    /** A long formula of snippets that keep to the grammar, so that units and brackets run out. */
    String longSign() {
        StringBuilder b = new StringBuilder("sign ");
        int open = 0;
        int many = 1 + random.nextInt(50);
        for (int i = 0; i < many; i++) {
            for (int n = random.nextInt(4); n > 0 && random.nextInt(3) > 0; n--) {
                if (random.nextBoolean()) {
                    b.append("not ");
                }
                if (random.nextBoolean()) {
                    b.append("(");
                    open++;
                }
            }
            b.append(random.nextBoolean() ? "many" : "7");
            while (open > 0 && random.nextInt(4) == 0) {
                b.append(")");
                open--;
            }
            if (i + 1 < many) b.append(random.nextBoolean() ? " and " : " or ");
        }
        for (; open > 0; open--) b.append(")");
        return b.append(";person a;person bob keeps;").toString();
    }
}
