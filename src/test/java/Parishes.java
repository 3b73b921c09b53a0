/** Texts of parishes whose answers can be told by thinking alone. */
final class Parishes {
    static final String NAMES = "abcdef";

    private Parishes() { }

    private static String people(int n, int keepers, String more) {
        StringBuilder b = new StringBuilder();
        for (int i = 0; i < n; i++) {
            b.append("person ").append(NAMES.charAt(i)).append((keepers >> i & 1) == 1 ? " keeps" : "").append(more).append(";");
        }
        return b.toString();
    }

    /** None of them knows of another one: with two of them or more nobody ever knows of himself. */
    static String apart(int n, int keepers) {
        return people(n, keepers, "");
    }

    /** Each knows of all others: k keepers own on the k-th morning. */
    static String full(int n, int keepers) {
        return full(n, keepers, "");
    }

    static String full(int n, int keepers, String more) {
        StringBuilder b = new StringBuilder(people(n, keepers, more));
        for (int i = 0; i < n; i++) {
            for (int j = 0; j < n; j++) {
                if (i != j) b.append("knows ").append(NAMES.charAt(i)).append(" ").append(NAMES.charAt(j)).append(";");
            }
        }
        return b.toString();
    }

    /** Worlds of which each next one is taken by somebody in the one before; f keeps in all but those at the end. */
    static String row(int keepers) {
        String[] shames = {"7", "8", "9", "7", "2", "2"};
        StringBuilder b = new StringBuilder();
        for (int i = 0; i < 6; i++) {
            b.append("person ").append(NAMES.charAt(i)).append((keepers >> i & 1) == 1 ? " keeps" : "").append(" shame ").append(shames[i]).append(";");
        }
        for (int i = 0; i < 6; i++) {
            for (int j = 0; j < 6; j++) {
                if (i != j && !(i == 1 && j == 3)) b.append("knows ").append(NAMES.charAt(i)).append(" ").append(NAMES.charAt(j)).append(";");
            }
        }
        return b + "sign not shame%6>4 and not shame%10>6 or shame+last=16 or not shame%8<4 and not first=1 or not shame>27 and not many=2 and last<5;";
    }

    /**
     * Found by search: b and d own first behind 31 mornings, when one world is left, and c behind 32. So as
     * mornings go by, what lies ahead comes from beyond the thirtieth one to it and before it.
     */
    static final String LONG = "person a shame 9 bears 1;person b keeps shame 6 bears 3;person c keeps shame 1 bears 4;"
        + "person d keeps shame 4 bears 9;person e shame 6 bears 3;person f shame 8 bears 8;"
        + "knows a b;knows a c;knows a e;knows a f;knows b a;knows b c;knows b d;knows c b;knows c d;knows c f;knows d a;knows d c;knows d e;"
        + "knows d f;knows e b;knows e c;knows e d;knows e f;knows f a;knows f d;knows f e;"
        + "sign not shame%6>3 and shame*5%7>4 or shame*2%7>0 and (shame*7495+last)%32>30;";

    /** Found by search, too: in world 24 the end is behind 30 mornings, in 30 there is none, and in none below. */
    static final String LATE = "person a shame 8 bears 7;person b shame 5 bears 8;person c shame 6 bears 9;person d keeps shame 6 bears 8;"
        + "person e keeps shame 1 bears 1;person f shame 9 bears 9;knows a b;knows a d;knows a e;knows b d;knows b e;knows b f;"
        + "knows c a;knows c b;knows c e;knows c f;knows d a;knows d c;knows d f;knows e b;knows e c;knows e d;knows f a;knows f d;knows f e;"
        + "sign (shame*488+last)%6839>3225 and (shame*3344+last)%9<4 or last>4 and not (shame+many*20+first*6677)%53<51 or shame*5989%40<3;";

    static int all(int n) {
        return (1 << n) - 1;
    }
}
