import java.util.ArrayList;
import java.util.Arrays;
import java.util.List;
import java.util.Set;
import java.util.TreeSet;
import java.util.function.IntPredicate;

/**
 * The document once more, in the plainest way and by other means than the class: sets of numbers,
 * nothing worked out for more than one world at a time, a reader of texts that throws. The tests
 * compare the class's answers with this one's.
 */
final class PlainParish {
    static final int NONE = -1;

    // ------------------------------------------------------------ a parish as told

    interface Value { int in(Told told, int world); }

    static final class Told {
        final List<String> names = new ArrayList<>();
        final List<Integer> shames = new ArrayList<>();
        final List<Integer> bears = new ArrayList<>();
        final Set<List<Integer>> knows = new java.util.HashSet<>();
        int truth = 0;
        Value formula = null;
        int fog = 0;
        int draw = 0;
        boolean fogTold = false;
        boolean drawTold = false;
        int units = 0;

        int sign(int world) {
            return formula == null ? Integer.bitCount(world) : formula.in(this, world);
        }

        Set<Integer> worldsAtFirst(int truth) {
            Set<Integer> worlds = new TreeSet<>();
            for (int w = 0; w < 1 << names.size(); w++) {
                if ((sign(w) > 0) == (sign(truth) > 0)) worlds.add(w);
            }
            return worlds;
        }

        State first(int truth) {
            State s = new State();
            s.worlds = worldsAtFirst(truth);
            for (List<Integer> k : knows) s.knows[k.get(0)][k.get(1)] = true;
            s.seed = draw;
            return s;
        }
    }

    static final class State {
        Set<Integer> worlds = new TreeSet<>();
        boolean[][] knows = new boolean[6][6];
        int owned = 0;
        int morning = 0;
        int seed = 0;

        State copy() {
            State s = new State();
            s.worlds = new TreeSet<>(worlds);
            for (int i = 0; i < 6; i++) s.knows[i] = knows[i].clone();
            s.owned = owned;
            s.morning = morning;
            s.seed = seed;
            return s;
        }
    }

    // ------------------------------------------------------------ reading a text

    static final class Wrong extends RuntimeException {
        final int fault;
        final int place;

        Wrong(int fault, int place) {
            this.fault = fault;
            this.place = place;
        }
    }

    static final class Text {
        static final List<String> OWN = Arrays.asList("person", "keeps", "shame", "bears", "knows", "sign", "fog",
            "draw", "or", "and", "not", "many", "first", "last", "people");
        final String s;
        int at = 0;
        final Told told = new Told();

        Text(String s) {
            this.s = s;
        }

        /** The token that stands next, "" at the end; throws where there is none. */
        String peek() {
            while (at < s.length() && (s.charAt(at) == ' ' || s.charAt(at) == '\n')) at++;
            if (at == s.length()) return "";
            String rest = s.substring(at);
            java.util.regex.Matcher m = java.util.regex.Pattern.compile("^(?:([a-z]+)|([0-9]+)([a-z]?)|[;()<>=+*/%-])", java.util.regex.Pattern.DOTALL).matcher(rest);
            if (!m.find()) throw new Wrong(1, at);
            if (m.group(1) != null && m.group(1).length() > 8) throw new Wrong(1, at);
            if (m.group(2) != null && (m.group(2).length() > 4 || !m.group(3).isEmpty())) throw new Wrong(1, at);
            return m.group(2) != null ? m.group(2) : m.group();
        }

        boolean on(String token) {
            if (!peek().equals(token)) return false;
            at += token.length();
            return true;
        }

        void must(String token) {
            if (!on(token)) throw new Wrong(2, at);
        }

        String name() {
            String t = peek();
            if (t.isEmpty() || !Character.isLetter(t.charAt(0)) || OWN.contains(t)) throw new Wrong(2, at);
            return t;
        }

        int number(int most) {
            String t = peek();
            if (t.isEmpty() || !Character.isDigit(t.charAt(0))) throw new Wrong(2, at);
            int n = Integer.parseInt(t);
            if (n > most) throw new Wrong(4, at);
            at += t.length();
            return n;
        }

        int somebody() {
            String n = name();
            int who = told.names.indexOf(n);
            if (who < 0) throw new Wrong(5, at);
            return who;
        }

        Told read() {
            while (!peek().isEmpty()) {
                int start = at;
                if (on("person")) {
                    if (told.names.size() == 6) throw new Wrong(2, start);
                    String n = name();
                    if (told.names.contains(n)) throw new Wrong(3, at);
                    at += n.length();
                    told.names.add(n);
                    if (on("keeps")) told.truth |= 1 << told.names.size() - 1;
                    told.shames.add(on("shame") ? number(9) : 0);
                    told.bears.add(on("bears") ? number(9) : 0);
                } else if (on("knows")) {
                    if (told.knows.size() == 30) throw new Wrong(2, start);
                    int one = somebody();
                    at += told.names.get(one).length();
                    int two = somebody();
                    if (one == two || !told.knows.add(List.of(one, two))) throw new Wrong(3, at);
                    at += told.names.get(two).length();
                } else if (on("sign")) {
                    if (told.formula != null) throw new Wrong(2, start);
                    told.formula = e(0);
                } else if (on("fog")) {
                    if (told.fogTold) throw new Wrong(2, start);
                    told.fogTold = true;
                    told.fog = number(100);
                } else if (on("draw")) {
                    if (told.drawTold) throw new Wrong(2, start);
                    told.drawTold = true;
                    told.draw = number(999);
                } else {
                    throw new Wrong(2, at);
                }
                must(";");
            }
            return told;
        }

        Value e(int around) {
            Value v = both(around);
            while (on("or")) {
                Value a = v;
                Value b = both(around);
                v = (t, w) -> { int x = a.in(t, w); int y = b.in(t, w); return x != 0 || y != 0 ? 1 : 0; };
            }
            return v;
        }

        Value both(int around) {
            Value v = one(around);
            while (on("and")) {
                Value a = v;
                Value b = one(around);
                v = (t, w) -> { int x = a.in(t, w); int y = b.in(t, w); return x != 0 && y != 0 ? 1 : 0; };
            }
            return v;
        }

        Value one(int around) {
            if (peek().equals("not")) {
                if (around == 7) throw new Wrong(2, at);
                on("not");
                Value a = one(around + 1);
                return (t, w) -> a.in(t, w) == 0 ? 1 : 0;
            }
            Value a = sum(around);
            if (on("<")) { Value b = sum(around); return (t, w) -> a.in(t, w) < b.in(t, w) ? 1 : 0; }
            if (on(">")) { Value b = sum(around); return (t, w) -> a.in(t, w) > b.in(t, w) ? 1 : 0; }
            if (on("=")) { Value b = sum(around); return (t, w) -> a.in(t, w) == b.in(t, w) ? 1 : 0; }
            return a;
        }

        Value sum(int around) {
            Value v = term(around);
            while (true) {
                Value a = v;
                if (on("+")) { Value b = term(around); v = (t, w) -> a.in(t, w) + b.in(t, w); }
                else if (on("-")) { Value b = term(around); v = (t, w) -> a.in(t, w) - b.in(t, w); }
                else return v;
            }
        }

        Value term(int around) {
            Value v = unit(around);
            while (true) {
                Value a = v;
                if (on("*")) { Value b = unit(around); v = (t, w) -> a.in(t, w) * b.in(t, w); }
                else if (on("/")) { Value b = unit(around); v = (t, w) -> b.in(t, w) == 0 ? 0 : a.in(t, w) / b.in(t, w); }
                else if (on("%")) { Value b = unit(around); v = (t, w) -> b.in(t, w) == 0 ? 0 : a.in(t, w) % b.in(t, w); }
                else return v;
            }
        }

        Value unit(int around) {
            String t = peek();
            if (told.units == 30 && !t.isEmpty()) throw new Wrong(2, at);
            if (on("(")) {
                if (around == 7) throw new Wrong(2, at - 1);
                told.units++;
                Value v = e(around + 1);
                must(")");
                return v;
            }
            if (!t.isEmpty() && Character.isDigit(t.charAt(0))) {
                at += t.length();
                told.units++;
                int n = Integer.parseInt(t);
                return (x, w) -> n;
            }
            if (on("many")) { told.units++; return (x, w) -> Integer.bitCount(w); }
            if (on("people")) { told.units++; return (x, w) -> x.names.size(); }
            if (on("shame")) {
                told.units++;
                return (x, w) -> { int sum = 0; for (int i = 0; i < x.names.size(); i++) if ((w >> i & 1) == 1) sum += x.shames.get(i); return sum; };
            }
            if (on("first")) {
                told.units++;
                return (x, w) -> { for (int i = 0; i < 6; i++) if ((w >> i & 1) == 1) return i; return -1; };
            }
            if (on("last")) {
                told.units++;
                return (x, w) -> { for (int i = 5; i >= 0; i--) if ((w >> i & 1) == 1) return i; return -1; };
            }
            throw new Wrong(2, at);
        }
    }

    // ------------------------------------------------------------ the object

    private StringBuilder tape = new StringBuilder();
    private Told told = new Told();
    private State now = told.first(0);
    private List<State> undos = new ArrayList<>();
    private List<State> redos = new ArrayList<>();
    private int fault = 0;
    private int place = NONE;
    private State[] boxes = new State[3];
    private List<Integer> lying = new ArrayList<>();
    private List<int[]> seens = new ArrayList<>();
    private int time = 0;

    int people() { return told.names.size(); }
    boolean who(int i) { return i >= 0 && i < people(); }
    boolean what(int what, int most) { return what >= 0 && what <= most; }
    static boolean bit(int bits, int i) { return (bits >> i & 1) == 1; }

    public int feed(int a, int b, int c, int d, int e) {
        if (tape.length() + 20 > 1600) return NONE;
        for (int n : new int[] {a, b, c, d, e}) {
            for (int i = 3; i >= 0; i--) tape.append((char) (n >> 8 * i & 255));
        }
        return tape.length();
    }

    public int end(int n) {
        if (n < 0 || n > tape.length()) return NONE;
        tape.setLength(n);
        return n;
    }

    public int parish() {
        try {
            Told t = new Text(tape.toString()).read();
            told = t;
        } catch (Wrong w) {
            fault = w.fault;
            place = w.place;
            return NONE;
        }
        fault = 0;
        place = NONE;
        tape.setLength(0);
        now = told.first(told.truth);
        undos.clear();
        redos.clear();
        boxes = new State[3];
        lying.clear();
        seens.clear();
        owning.clear();
        return people();
    }

    public int fault(int what) { return what == 0 ? fault : what == 1 ? place : NONE; }

    public int person(int p, int what) {
        if (!who(p)) return NONE;
        if (what == 0) return bit(told.truth, p) ? 1 : 0;
        if (what == 1) return told.shames.get(p);
        if (what == 2) return told.bears.get(p);
        if (what == 3) return bits(i -> now.knows[p][i]);
        if (what == 4) return bit(now.owned, p) ? 1 : 0;
        return NONE;
    }

    int bits(IntPredicate is) {
        int b = 0;
        for (int i = 0; i < people(); i++) if (is.test(i)) b += 1 << i;
        return b;
    }

    boolean world(int w) { return w >= 0 && w < Math.pow(2, people()); }
    public int sign(int w) { return world(w) ? told.sign(w) : -1000000000; }
    public int possible(int w) { return !world(w) ? NONE : now.worlds.contains(w) ? 1 : 0; }
    public int worlds() { return now.worlds.size(); }

    // ------------------------------------------------------------ knowledge

    Set<Integer> takes(State s, int p, int world) {
        Set<Integer> taken = new TreeSet<>();
        for (int v : s.worlds) {
            boolean same = true;
            for (int i = 0; i < people(); i++) if (s.knows[p][i] && bit(v, i) != bit(world, i)) same = false;
            if (same) taken.add(v);
        }
        return taken;
    }

    boolean knowsThat(State s, int p, int world, IntPredicate fact) {
        int of = 0;
        for (int i = 0; i < people(); i++) if (s.knows[p][i]) of |= 1 << i;
        for (int v : s.worlds) if ((v & of) == (world & of) && !fact.test(v)) return false;
        return true;
    }

    boolean wouldOwn(State s, int p, int world) {
        return s.morning >= told.bears.get(p) && knowsThat(s, p, world, v -> bit(v, p));
    }

    int owners(State s, int world) { return bits(p -> wouldOwn(s, p, world)); }

    int clearMorning(State s, int truth) {
        int own = owners(s, truth);
        Set<Integer> stay = new TreeSet<>();
        for (int v : s.worlds) if (owners(s, v) == own) stay.add(v);
        s.worlds = stay;
        s.owned |= own;
        s.morning++;
        return own;
    }

    int anyMorning(State s) {
        s.seed = (137 * s.seed + 71) % 1000;
        if (s.seed % 100 < told.fog) {
            s.morning++;
            return 0;
        }
        return clearMorning(s, told.truth);
    }

    // ------------------------------------------------------------ acts

    void act() {
        undos.add(now.copy());
        if (undos.size() > 40) undos.remove(0);
        redos.clear();
    }

    public int morning() {
        if (now.morning >= 999) return NONE;
        act();
        return anyMorning(now);
    }

    public int measure() {
        act();
        now.worlds.removeIf(w -> told.sign(w) != told.sign(told.truth));
        return worlds();
    }

    Set<Integer> afterAsking(State s, int p) {
        boolean answer = knowsThat(s, p, told.truth, v -> bit(v, p));
        Set<Integer> stay = new TreeSet<>();
        for (int w : s.worlds) if (knowsThat(s, p, w, v -> bit(v, p)) == answer) stay.add(w);
        return stay;
    }

    public int ask(int p) {
        if (!who(p)) return NONE;
        act();
        int answer = knowsThat(now, p, told.truth, v -> bit(v, p)) ? 1 : 0;
        now.worlds = afterAsking(now, p);
        return answer;
    }

    public int peg(int p) {
        if (!who(p)) return NONE;
        act();
        now.worlds.removeIf(w -> bit(w, p) != bit(told.truth, p));
        return bit(told.truth, p) ? 1 : 0;
    }

    public int whisper(int p, int o) {
        if (!who(p) || !who(o) || p == o || now.knows[p][o]) return NONE;
        act();
        now.knows[p][o] = true;
        int n = 0;
        for (boolean b : now.knows[p]) if (b) n++;
        return n;
    }

    public boolean undo() {
        if (undos.isEmpty()) return false;
        redos.add(now);
        now = undos.remove(undos.size() - 1);
        return true;
    }

    public boolean redo() {
        if (redos.isEmpty()) return false;
        undos.add(now);
        now = redos.remove(redos.size() - 1);
        return true;
    }

    // ------------------------------------------------------------ questions

    public int knows(int p, int o) { return !who(p) || !who(o) ? -2 : knowsIn(told.truth, p, o); }

    public int knowsIn(int w, int p, int o) {
        if (!who(p) || !who(o) || !now.worlds.contains(w)) return -2;
        if (knowsThat(now, p, w, v -> bit(v, o))) return 1;
        return knowsThat(now, p, w, v -> !bit(v, o)) ? 0 : -1;
    }

    boolean times(int n, int p, int world) {
        if (n == 0) return bit(world, p);
        for (int q = 0; q < people(); q++) {
            if (!knowsThat(now, q, world, v -> known[n - 1][v])) return false;
        }
        return true;
    }

    private boolean[][] known;

    void fillTimes(int p, int most) {
        known = new boolean[most + 1][64];
        for (int n = 0; n <= most; n++) for (int w : now.worlds) known[n][w] = times(n, p, w);
    }

    public int depth(int p) {
        if (!who(p) || !bit(told.truth, p)) return NONE;
        fillTimes(p, 9);
        int d = 0;
        while (d < 9 && known[d + 1][told.truth]) d++;
        return d;
    }

    public int common() {
        return bits(p -> {
            fillTimes(p, 70);
            return known[70][told.truth];
        });
    }

    public int open(int p) { return who(p) ? takes(now, p, told.truth).size() : NONE; }

    int endOf(State from, int truth, int most) {
        State s = from.copy();
        for (int n = 0; n <= most; n++) {
            boolean all = true;
            for (int i = 0; i < people(); i++) if (bit(truth, i) && !bit(s.owned, i)) all = false;
            if (all) return n;
            clearMorning(s, truth);
        }
        return NONE;
    }

    public int ending() { return endOf(now, told.truth, 30); }

    public int first() {
        State s = now.copy();
        for (int n = 0; n <= 30; n++) {
            if (s.owned != 0) return n;
            clearMorning(s, told.truth);
        }
        return NONE;
    }

    public int will(int n, int what) {
        if (n < 1 || n > 30 || !what(what, 1)) return NONE;
        State s = now.copy();
        int last = 0;
        for (int i = 0; i < n; i++) last = what == 1 ? anyMorning(s) : clearMorning(s, told.truth);
        return last;
    }

    public int worldsAt(int n) {
        if (n < 0 || n > 30) return NONE;
        State s = now.copy();
        for (int i = 0; i < n; i++) clearMorning(s, told.truth);
        return s.worlds.size();
    }

    static int fewest(List<Integer> sets) {
        int best = NONE;
        for (int s : sets) if (best == NONE || Integer.bitCount(s) < Integer.bitCount(best)) best = s;
        return best;
    }

    static int setAnswer(List<Integer> sets, int what) {
        if (sets.isEmpty()) return NONE;
        int best = fewest(sets);
        return what == 0 ? Integer.bitCount(best) : what == 1 ? best : NONE;
    }

    public int group(int p, int what) {
        if (!who(p) || !what(what, 1)) return NONE;
        List<Integer> good = new ArrayList<>();
        for (int set = 0; set < 1 << people(); set++) {
            Set<Boolean> tell = new java.util.HashSet<>();
            for (int w : now.worlds) {
                boolean same = true;
                for (int g = 0; g < people(); g++) {
                    for (int i = 0; i < people(); i++) {
                        if (bit(set, g) && now.knows[g][i] && bit(w, i) != bit(told.truth, i)) same = false;
                    }
                }
                if (same) tell.add(bit(w, p));
            }
            if (tell.size() < 2) good.add(set);
        }
        return setAnswer(good, what);
    }

    public int call(int what) {
        int best = NONE;
        int left = 1000;
        for (int p = 0; p < people(); p++) {
            int n = afterAsking(now, p).size();
            if (n < left) { left = n; best = p; }
        }
        return best == NONE ? NONE : what == 0 ? best : what == 1 ? left : NONE;
    }

    int[] bestOf(List<int[]> tries) {
        int[] best = null;
        for (int[] t : tries) if (t[2] != NONE && (best == null || t[2] < best[2])) best = t;
        int end = ending();
        return best == null || end != NONE && best[2] >= end ? new int[] {NONE, NONE, NONE} : best;
    }

    public int hint(int what) {
        List<int[]> tries = new ArrayList<>();
        for (int p = 0; p < people(); p++) {
            for (int o = 0; o < people(); o++) {
                if (p == o || now.knows[p][o]) continue;
                State s = now.copy();
                s.knows[p][o] = true;
                tries.add(new int[] {p, o, endOf(s, told.truth, 30)});
            }
        }
        return what(what, 2) ? bestOf(tries)[what] : NONE;
    }

    public int meeting(int what) {
        List<int[]> tries = new ArrayList<>();
        for (int p = 0; p < people(); p++) {
            for (int o = p + 1; o < people(); o++) {
                State s = now.copy();
                for (int i = 0; i < people(); i++) {
                    boolean one = now.knows[p][i] || now.knows[o][i];
                    if (i != p) s.knows[p][i] = one;
                    if (i != o) s.knows[o][i] = one;
                }
                tries.add(new int[] {p, o, endOf(s, told.truth, 30)});
            }
        }
        return what(what, 2) ? bestOf(tries)[what] : NONE;
    }

    public int pin(int what) {
        int best = NONE;
        int soonest = 1000;
        for (int p = 0; p < people(); p++) {
            int q = p;
            State s = now.copy();
            s.worlds.removeIf(w -> bit(w, q) != bit(told.truth, q));
            int e = endOf(s, told.truth, 30);
            if (e != NONE && e < soonest) { soonest = e; best = p; }
        }
        return best == NONE ? NONE : what == 0 ? best : what == 1 ? soonest : NONE;
    }

    public int thinks(int p, int o) {
        if (!who(p) || !who(o)) return NONE;
        Set<Integer> all = new TreeSet<>();
        for (int w : takes(now, p, told.truth)) all.addAll(takes(now, o, w));
        return all.size();
    }

    public int wronged() {
        return bits(p -> {
            if (bit(told.truth, p)) return false;
            for (int q = 0; q < people(); q++) {
                if (q == p) continue;
                for (int w : takes(now, q, told.truth)) if (bit(w, p)) return true;
            }
            return false;
        });
    }

    public int settled() {
        return bits(p -> {
            for (int q = 0; q < people(); q++) if (knows(q, p) == -1) return false;
            return true;
        });
    }

    public int wisest() {
        int best = NONE;
        for (int p = people() - 1; p >= 0; p--) if (best == NONE || open(p) <= open(best)) best = p;
        return best;
    }

    int knowers(int p) {
        int n = 0;
        for (int q = 0; q < people(); q++) if (now.knows[q][p]) n++;
        return n;
    }

    public int talked() {
        int best = NONE;
        for (int p = people() - 1; p >= 0; p--) if (best == NONE || knowers(p) >= knowers(best)) best = p;
        return best;
    }

    public int reach(int p, int o) {
        if (!who(p) || !who(o)) return NONE;
        int[] far = new int[6];
        Arrays.fill(far, 99);
        far[p] = 0;
        for (int round = 0; round < 10; round++) {
            for (int a = 0; a < people(); a++) {
                for (int b = 0; b < people(); b++) if (now.knows[b][a]) far[b] = Math.min(far[b], far[a] + 1);
            }
        }
        return far[o] >= 99 ? NONE : far[o];
    }

    public int least(int n) {
        for (int w : now.worlds) if (Integer.bitCount(w) == n) return w;
        return NONE;
    }

    public int suspected(int p) {
        return who(p) ? (int) now.worlds.stream().filter(w -> bit(w, p)).count() : NONE;
    }

    public int law(int n) {
        if (n < 0 || n > 99) return NONE;
        int many = 0;
        for (int p = 0; p < people(); p++) if (now.morning >= n && knows(p, p) == 1) many++;
        return many;
    }

    static int lowest(long up, long low, int part) {
        long g = java.math.BigInteger.valueOf(up).gcd(java.math.BigInteger.valueOf(low)).longValue();
        return part == 0 ? (int) (up / g) : part == 1 ? (int) (low / g) : NONE;
    }

    public int bet(int p, int o, int part) {
        if (!who(p) || !who(o)) return NONE;
        Set<Integer> all = takes(now, p, told.truth);
        return lowest(all.stream().filter(w -> bit(w, o)).count(), all.size(), part);
    }

    public int shared(int p, int n) {
        if (!who(p) || n < 0 || n > 9) return NONE;
        fillTimes(p, n);
        int many = 0;
        for (int w : now.worlds) if (known[n][w]) many++;
        return many;
    }

    public int parts(int p) {
        if (!who(p)) return NONE;
        Set<Set<Integer>> all = new java.util.HashSet<>();
        for (int w : now.worlds) all.add(takes(now, p, w));
        return all.size();
    }

    public int alike(int p, int o) {
        return !who(p) || !who(o) ? NONE : bits(i -> knows(p, i) == knows(o, i));
    }

    public int fate(int w) { return now.worlds.contains(w) ? endOf(now, w, 30) : NONE; }

    public int latest() {
        int best = NONE;
        for (int w : now.worlds) if (best == NONE || late(w) > late(best)) best = w;
        return best;
    }

    int late(int w) { return fate(w) == NONE ? 1000 : fate(w); }

    public int tale(int w) {
        lying.clear();
        if (!now.worlds.contains(w)) return NONE;
        int end = endOf(now, w, 9);
        State s = now.copy();
        for (int i = 0; i < (end == NONE ? 9 : end); i++) lying.add(clearMorning(s, w));
        return lying.size();
    }

    public int quiet() { return (int) now.worlds.stream().filter(w -> owners(now, w) == 0).count(); }

    public int pegs(int n, int what) {
        if (n < 0 || n > 9 || !what(what, 1)) return NONE;
        List<Integer> good = new ArrayList<>();
        for (int set = 0; set < 1 << people(); set++) {
            int shown = set;
            State s = now.copy();
            s.worlds.removeIf(w -> (w & shown) != (told.truth & shown));
            if (endOf(s, told.truth, n) != NONE) good.add(set);
        }
        return setAnswer(good, what);
    }

    public int spy(int p, int what) {
        if (!who(p) || !what(what, 1)) return NONE;
        List<Integer> good = new ArrayList<>();
        for (int set = 0; set < 1 << people(); set++) {
            if (bit(set, p)) continue;
            State s = now.copy();
            for (int i = 0; i < people(); i++) if (bit(set, i)) s.knows[p][i] = true;
            if (knowsThat(s, p, told.truth, v -> bit(v, p)) || knowsThat(s, p, told.truth, v -> !bit(v, p))) good.add(set);
        }
        return setAnswer(good, what);
    }

    public int unsure() { return bits(p -> knows(p, p) == -1); }

    public int within(int n) {
        if (n < 1 || n > 64) return NONE;
        for (int i = 0; i <= 30; i++) if (worldsAt(i) <= n) return i;
        return NONE;
    }

    public int lies(int i) { return i >= 0 && i < lying.size() ? lying.get(i) : NONE; }

    public int odds(int n, int part) {
        if (n < 0 || n > 4) return NONE;
        return lowest(Math.round(Math.pow(100 - told.fog, n)), Math.round(Math.pow(100, n)), part);
    }

    // ------------------------------------------------------------ who kept something

    public int seen(int morning, int p, boolean is) {
        if (morning < 1 || morning > 9 || !who(p) || seens.size() == 30) return NONE;
        seens.add(new int[] {morning, p, is ? 1 : 0, time, Integer.MIN_VALUE});
        return seens.size() - 1;
    }

    public boolean untell(int i) {
        if (i < 0 || i >= seens.size() || seens.get(i)[4] != Integer.MIN_VALUE) return false;
        seens.get(i)[4] = time;
        return true;
    }

    public int later(int by) {
        if (by < 0 || by > 1000 || time + by > 100000) return NONE;
        time += by;
        return time;
    }

    /** Who owns on each of nine mornings by each truth, remembered for the parish of which it is so. */
    private final java.util.Map<Integer, int[]> owning = new java.util.HashMap<>();

    boolean ownedOn(int truth, int morning, int p) {
        int[] own = owning.computeIfAbsent(truth, t -> {
            int[] all = new int[9];
            State s = told.first(t);
            for (int i = 0; i < 9; i++) all[i] = clearMorning(s, t);
            return all;
        });
        return bit(own[morning - 1], p);
    }

    List<Integer> fitting(int k) {
        List<Integer> all = new ArrayList<>();
        for (int w = 0; w < 1 << people(); w++) {
            boolean ok = true;
            for (int[] s : seens) {
                boolean counts = s[3] <= k && (s[4] == Integer.MIN_VALUE || s[4] > k);
                if (ok && counts && ownedOn(w, s[0], s[1]) != (s[2] == 1)) ok = false;
            }
            if (ok) all.add(w);
        }
        return all;
    }

    public int fits(int k) { return fitting(k).size(); }

    public int sure(int p, int k) {
        List<Integer> all = fitting(k);
        if (!who(p) || all.isEmpty()) return NONE;
        int yes = (int) all.stream().filter(w -> bit(w, p)).count();
        return yes == all.size() ? 1 : yes == 0 ? 0 : -2;
    }

    public int next(int morning, int what, int k) {
        if (morning < 1 || morning > 9) return NONE;
        List<Integer> all = fitting(k);
        if (all.isEmpty()) return NONE;
        int best = NONE;
        int left = 1000;
        for (int p = 0; p < people(); p++) {
            int yes = 0;
            for (int w : all) if (ownedOn(w, morning, p)) yes++;
            int most = Math.max(yes, all.size() - yes);
            if (most < left) { left = most; best = p; }
        }
        return best == NONE ? NONE : what == 0 ? best : what == 1 ? left : NONE;
    }

    // ------------------------------------------------------------ images

    public int image(int box) {
        if (box < 0 || box > 2) return NONE;
        boxes[box] = now.copy();
        return now.morning;
    }

    public int back(int box) {
        if (box < 0 || box > 2 || boxes[box] == null) return NONE;
        now = boxes[box].copy();
        undos.clear();
        redos.clear();
        return now.morning;
    }

    public int about(int what) {
        int[] all = {people(), told.truth, now.owned, now.morning, now.seed, undos.size(), redos.size(),
            seens.size(), time, tape.length(), told.units, told.fog, lying.size()};
        return what >= 0 && what < all.length ? all[what] : NONE;
    }
}
