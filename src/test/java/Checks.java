/** Counts wrong answers, tells each, and ends the test with exit code 1 if there was one. */
final class Checks {
    private static int wrong = 0;
    private static int asked = 0;
    /** Why it is asked: told with each wrong answer. */
    static String sentence = "";

    private Checks() { }

    static void due(String call, long got, long want) {
        asked++;
        if (got != want) {
            wrong++;
            System.out.println((sentence.isEmpty() ? "" : "[" + sentence + "] ") + call + " answered " + got + ", due is " + want);
        }
    }

    static void due(String call, boolean got, boolean want) {
        due(call, got ? 1 : 0, want ? 1 : 0);
    }

    static boolean anyWrong() {
        return wrong > 0;
    }

    static void done() {
        System.out.println(asked + " answers looked at, " + wrong + " not as due");
        if (wrong != 0 || asked == 0) {
            System.exit(1);
        }
    }

    /** Puts a text on the tape, its last twenty bytes filled up and cut off again. */
    static void tape(StinkhornParish x, String text) {
        int before = x.about(9);
        for (int i = 0; i < text.length(); i += 20) {
            x.feed(four(text, i), four(text, i + 4), four(text, i + 8), four(text, i + 12), four(text, i + 16));
        }
        x.end(before + text.length());
    }

    static int four(String text, int from) {
        int number = 0;
        for (int i = from; i < from + 4; i++) {
            number = number << 8 | (i < text.length() ? text.charAt(i) & 255 : ' ');
        }
        return number;
    }

    static StinkhornParish told(String text) {
        StinkhornParish x = new StinkhornParish();
        tape(x, text);
        if (x.parish() == StinkhornParish.NONE) {
            due("parish() of " + text + ", fault " + x.fault(0) + " at " + x.fault(1), -1, 0);
        }
        return x;
    }
}
