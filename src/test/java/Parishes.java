/** Texts of parishes whose answers can be told by thinking alone. */
final class Parishes {
    static final String NAMES = "abcdef";

    private Parishes() { }

    private static String people(int n, int keepers, String more) {
        StringBuilder b = new StringBuilder();
        for (int i = 0; i < n; i++) {
            b.append("person ").append(NAMES.charAt(i)).append((keepers >> i & 1) == 1 ? " keeps" : "").append(more).append(";");
        }
        return b.toString();
    }

    /** None of them knows of another one: with two of them or more nobody ever knows of himself. */
    static String apart(int n, int keepers) {
        return people(n, keepers, "");
    }

    /** Each knows of all others: k keepers own on the k-th morning. */
    static String full(int n, int keepers) {
        return full(n, keepers, "");
    }

    static String full(int n, int keepers, String more) {
        StringBuilder b = new StringBuilder(people(n, keepers, more));
        for (int i = 0; i < n; i++) {
            for (int j = 0; j < n; j++) {
                if (i != j) b.append("knows ").append(NAMES.charAt(i)).append(" ").append(NAMES.charAt(j)).append(";");
            }
        }
        return b.toString();
    }

    /** Worlds of which each next one is taken by somebody in the one before; f keeps in all but those at the end. */
    static String row(int keepers) {
        String[] shames = {"7", "8", "9", "7", "2", "2"};
        StringBuilder b = new StringBuilder();
        for (int i = 0; i < 6; i++) {
            b.append("person ").append(NAMES.charAt(i)).append((keepers >> i & 1) == 1 ? " keeps" : "").append(" shame ").append(shames[i]).append(";");
        }
        for (int i = 0; i < 6; i++) {
            for (int j = 0; j < 6; j++) {
                if (i != j && !(i == 1 && j == 3)) b.append("knows ").append(NAMES.charAt(i)).append(" ").append(NAMES.charAt(j)).append(";");
            }
        }
        return b + "sign not shame%6>4 and not shame%10>6 or shame+last=16 or not shame%8<4 and not first=1 or not shame>27 and not many=2 and last<5;";
    }

    static int all(int n) {
        return (1 << n) - 1;
    }
}
