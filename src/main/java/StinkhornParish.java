/**
 * Churchwardens who keep something or not, what each of them knows, and what all draw from who
 * owns on which morning.
 *
 * A set of worlds is a long whose bit w stands for world w: there are at most 64 of them, so that
 * "all worlds in which .." is one number and knowledge is worked out for all worlds at once.
 */
public final class StinkhornParish {
    public static final int NONE = -1;

    private static final int NO_SIGN = -1000000000;
    private static final int CANNOT = -2;
    private static final int NOT_SAME = -2;

    private static final int MOST_PEOPLE = 6;
    private static final int MOST_WORLDS = 64;
    private static final int MOST_BYTES = 1600;
    private static final int MOST_KNOWN = 30;
    private static final int MOST_UNITS = 30;
    private static final int MOST_AROUND = 6;
    private static final int MOST_LETTERS = 8;
    private static final int MOST_DIGITS = 4;
    private static final int MOST_BEARS = 9;
    private static final int MOST_ACTS = 40;
    private static final int MOST_GONE = 999;
    private static final int MOST_AHEAD = 30;
    private static final int MOST_TALE = 9;
    private static final int MOST_DEPTH = 9;
    private static final int MOST_SEEN = 30;
    private static final int MOST_LATER = 1000;
    private static final int MOST_TIME = 100000;
    private static final int BOXES = 3;

    /** KEEPING[i]: the worlds in which person i is a keeper. */
    private static final long[] KEEPING = {
        0xAAAAAAAAAAAAAAAAL, 0xCCCCCCCCCCCCCCCCL, 0xF0F0F0F0F0F0F0F0L,
        0xFF00FF00FF00FF00L, 0xFFFF0000FFFF0000L, 0xFFFFFFFF00000000L
    };

    /** The words that stand for themselves, in the order of their codes, each with a blank behind. */
    private static final String WORDS =
        "person knows sign fog draw keeps bears shame many first last people or and not ";

    // Tokens: a sign is its own character; the words go on from 128.
    private static final int TEXT_END = 0;
    private static final int NO_TOKEN = 1;
    private static final int A_NAME = 2;
    private static final int A_NUMBER = 3;
    private static final int PERSON = 128;
    private static final int KNOWS = 129;
    private static final int SIGN = 130;
    private static final int FOG = 131;
    private static final int DRAW = 132;
    private static final int KEEPS = 133;
    private static final int BEARS = 134;
    private static final int SHAME = 135;
    private static final int MANY = 136;
    private static final int FIRST = 137;
    private static final int LAST = 138;
    private static final int PEOPLE = 139;
    private static final int OR = 140;
    private static final int AND = 141;
    private static final int NOT = 142;

    private static final int FAULT_TOKEN = 1;
    private static final int FAULT_PLACE = 2;
    private static final int FAULT_TWICE = 3;
    private static final int FAULT_NUMBER = 4;
    private static final int FAULT_NOBODY = 5;

    // How closely the formula's signs bind; what has no such rank ends a formula.
    private static final int RANK_OR = 0;
    private static final int RANK_AND = 1;
    private static final int RANK_RELATION = 2;
    private static final int RANK_SUM = 3;
    private static final int RANK_TERM = 4;
    private static final int RANK_UNIT = 5;

    private final Reader reader = new Reader();
    private final Told told = new Told();
    private final Day now = new Day();
    private final Day trial = new Day();
    private final Acts acts = new Acts();
    private final Day[] boxes = new Day[BOXES];
    private final boolean[] kept = new boolean[BOXES];
    private final int[] lying = new int[MOST_TALE];
    private int lyingCount = 0;
    private final Sightings sightings = new Sightings();
    private int time = 0;

    public StinkhornParish() {
        for (int box = 0; box < BOXES; box++) {
            boxes[box] = new Day();
        }
        // An empty text has no fault: it is the empty parish.
        reader.read();
        startAnew();
    }

    // ---------------------------------------------------------------- the text

    public int feed(int a, int b, int c, int d, int e) {
        if (reader.length > MOST_BYTES - 20) {
            return NONE;
        }
        reader.append(a);
        reader.append(b);
        reader.append(c);
        reader.append(d);
        reader.append(e);
        return reader.length;
    }

    public int end(int n) {
        if (n < 0 || n > reader.length) {
            return NONE;
        }
        reader.length = n;
        return n;
    }

    public int parish() {
        reader.read();
        if (reader.wrong != 0) {
            return NONE;
        }
        reader.length = 0;
        startAnew();
        return told.people;
    }

    private void startAnew() {
        told.copyFrom(reader.draft);
        told.startDay(now, told.keepers);
        acts.forget();
        sightings.forget();
        lyingCount = 0;
        for (int box = 0; box < BOXES; box++) {
            kept[box] = false;
        }
    }

    public int fault(int what) {
        switch (what) {
            case 0: return reader.wrong;
            case 1: return reader.place;
            default: return NONE;
        }
    }

    // ---------------------------------------------------------------- what is now

    public int person(int person, int what) {
        if (!isPerson(person)) {
            return NONE;
        }
        switch (what) {
            case 0: return told.keepers >>> person & 1;
            case 1: return told.shame[person];
            case 2: return told.bears[person];
            case 3: return now.knownTo(person);
            case 4: return now.owned >>> person & 1;
            default: return NONE;
        }
    }

    public int sign(int world) {
        return isWorld(world) ? told.signs[world] : NO_SIGN;
    }

    public int possible(int world) {
        if (!isWorld(world)) {
            return NONE;
        }
        return has(now.left, world) ? 1 : 0;
    }

    public int worlds() {
        return Long.bitCount(now.left);
    }

    private boolean isPerson(int person) {
        return person >= 0 && person < told.people;
    }

    private boolean arePeople(int person, int other) {
        return isPerson(person) && isPerson(other);
    }

    private boolean isWorld(int world) {
        return world >= 0 && world < 1 << told.people;
    }

    private boolean isPossible(int world) {
        return isWorld(world) && has(now.left, world);
    }

    // ---------------------------------------------------------------- acts

    public int morning() {
        if (now.gone >= MOST_GONE) {
            return NONE;
        }
        acts.keep(now);
        return foggyDawn(told, now, told.keepers);
    }

    public int measure() {
        acts.keep(now);
        now.left &= told.signedLike(told.keepers);
        return Long.bitCount(now.left);
    }

    public int ask(int person) {
        if (!isPerson(person)) {
            return NONE;
        }
        acts.keep(now);
        long yes = knowing(told, now, person, KEEPING[person]);
        boolean answer = has(yes, told.keepers);
        now.left &= answer ? yes : ~yes;
        return answer ? 1 : 0;
    }

    public int peg(int person) {
        if (!isPerson(person)) {
            return NONE;
        }
        acts.keep(now);
        now.left &= likeTrue(1 << person);
        return told.keepers >>> person & 1;
    }

    public int whisper(int person, int other) {
        if (!canWhisper(person, other)) {
            return NONE;
        }
        acts.keep(now);
        now.addKnown(person, 1 << other);
        return Integer.bitCount(now.knownTo(person));
    }

    private boolean canWhisper(int person, int other) {
        return arePeople(person, other) && person != other
            && (now.knownTo(person) >>> other & 1) == 0;
    }

    public boolean undo() {
        return acts.takeBack(now);
    }

    public boolean redo() {
        return acts.doAgain(now);
    }

    // ---------------------------------------------------------------- what each knows

    public int knows(int person, int other) {
        return arePeople(person, other) ? verdict(told.keepers, person, other) : CANNOT;
    }

    public int knowsIn(int world, int person, int other) {
        if (!isPossible(world) || !arePeople(person, other)) {
            return CANNOT;
        }
        return verdict(world, person, other);
    }

    /** What one knows in a possible world of another one: 1 a keeper, 0 none, -1 neither. */
    private int verdict(int world, int person, int other) {
        long all = taken(world, person);
        long keeping = all & KEEPING[other];
        if (keeping == all) {
            return 1;
        }
        return keeping == 0 ? 0 : -1;
    }

    private long taken(int world, int person) {
        return now.left & spread(1L << world, now.knownTo(person), told.people);
    }

    /** All worlds that tell the same as the true one of a set of people. */
    private long likeTrue(int whom) {
        return spread(1L << told.keepers, whom, told.people);
    }

    public int depth(int person) {
        if (!isPerson(person) || (told.keepers >>> person & 1) == 0) {
            return NONE;
        }
        long so = now.left & KEEPING[person];
        for (int times = 0; times < MOST_DEPTH; times++) {
            so = knownToAll(so);
            if (!has(so, told.keepers)) {
                return times;
            }
        }
        return MOST_DEPTH;
    }

    /** The possible worlds in which all people know that something is so. */
    private long knownToAll(long so) {
        long all = now.left;
        for (int person = 0; person < told.people; person++) {
            all &= knowing(told, now, person, so);
        }
        return all;
    }

    public int common() {
        long thoughtOf = 1L << told.keepers;
        long before = 0;
        // Each round but the last adds a world, so that as many rounds as worlds are enough.
        for (int round = 0; round < MOST_WORLDS && before != thoughtOf; round++) {
            before = thoughtOf;
            for (int person = 0; person < told.people; person++) {
                thoughtOf |= now.left & spread(thoughtOf, now.knownTo(person), told.people);
            }
        }
        int who = 0;
        for (int person = 0; person < told.people; person++) {
            if ((thoughtOf & ~KEEPING[person]) == 0) {
                who |= 1 << person;
            }
        }
        return who;
    }

    public int open(int person) {
        return isPerson(person) ? Long.bitCount(taken(told.keepers, person)) : NONE;
    }

    public int thinks(int person, int other) {
        if (!arePeople(person, other)) {
            return NONE;
        }
        long his = taken(told.keepers, person);
        return Long.bitCount(now.left & spread(his, now.knownTo(other), told.people));
    }

    public int wronged() {
        int who = 0;
        for (int person = 0; person < told.people; person++) {
            if ((told.keepers >>> person & 1) == 0 && isThoughtOf(person)) {
                who |= 1 << person;
            }
        }
        return who;
    }

    private boolean isThoughtOf(int person) {
        for (int other = 0; other < told.people; other++) {
            if (other != person && verdict(told.keepers, other, person) != 0) {
                return true;
            }
        }
        return false;
    }

    public int settled() {
        int who = 0;
        for (int person = 0; person < told.people; person++) {
            if (isClearToAll(person)) {
                who |= 1 << person;
            }
        }
        return who;
    }

    private boolean isClearToAll(int person) {
        for (int other = 0; other < told.people; other++) {
            if (verdict(told.keepers, other, person) == -1) {
                return false;
            }
        }
        return true;
    }

    public int wisest() {
        int best = NONE;
        for (int person = 0; person < told.people; person++) {
            best = lesser(best, open(person) * MOST_PEOPLE + person);
        }
        return best == NONE ? NONE : best % MOST_PEOPLE;
    }

    public int talked() {
        int best = NONE;
        int most = -1;
        for (int person = 0; person < told.people; person++) {
            int many = Integer.bitCount(knowersOf(1 << person));
            if (many > most) {
                most = many;
                best = person;
            }
        }
        return best;
    }

    /** Those who know of at least one of a set of people. */
    private int knowersOf(int whom) {
        int who = 0;
        for (int person = 0; person < told.people; person++) {
            if ((now.knownTo(person) & whom) != 0) {
                who |= 1 << person;
            }
        }
        return who;
    }

    public int reach(int person, int other) {
        if (!arePeople(person, other)) {
            return NONE;
        }
        int reached = 1 << person;
        for (int steps = 0; steps < MOST_PEOPLE; steps++) {
            if ((reached >>> other & 1) == 1) {
                return steps;
            }
            reached |= knowersOf(reached);
        }
        return NONE;
    }

    public int least(int n) {
        for (int world = 0; world < 1 << told.people; world++) {
            if (has(now.left, world) && Integer.bitCount(world) == n) {
                return world;
            }
        }
        return NONE;
    }

    public int suspected(int person) {
        return isPerson(person) ? Long.bitCount(now.left & KEEPING[person]) : NONE;
    }

    public int law(int n) {
        if (n < 0 || n > 99) {
            return NONE;
        }
        if (now.gone < n) {
            return 0;
        }
        int many = 0;
        for (int person = 0; person < told.people; person++) {
            many += verdict(told.keepers, person, person) == 1 ? 1 : 0;
        }
        return many;
    }

    public int bet(int person, int other, int part) {
        if (!arePeople(person, other)) {
            return NONE;
        }
        long all = taken(told.keepers, person);
        return lowest(Long.bitCount(all & KEEPING[other]), Long.bitCount(all), part);
    }

    public int shared(int person, int n) {
        if (!isPerson(person) || n < 0 || n > MOST_DEPTH) {
            return NONE;
        }
        long so = now.left & KEEPING[person];
        for (int times = 0; times < n; times++) {
            so = knownToAll(so);
        }
        return Long.bitCount(so);
    }

    public int parts(int person) {
        if (!isPerson(person)) {
            return NONE;
        }
        int known = now.knownTo(person);
        long tellings = 0;
        for (int world = 0; world < 1 << told.people; world++) {
            if (has(now.left, world)) {
                tellings |= 1L << (world & known);
            }
        }
        return Long.bitCount(tellings);
    }

    public int alike(int person, int other) {
        if (!arePeople(person, other)) {
            return NONE;
        }
        int who = 0;
        for (int third = 0; third < told.people; third++) {
            if (verdict(told.keepers, person, third) == verdict(told.keepers, other, third)) {
                who |= 1 << third;
            }
        }
        return who;
    }

    public int quiet() {
        long silent = now.left;
        for (int person = 0; person < told.people; person++) {
            silent &= ~owning(told, now, person);
        }
        return Long.bitCount(silent);
    }

    public int unsure() {
        int who = 0;
        for (int person = 0; person < told.people; person++) {
            if (verdict(told.keepers, person, person) == -1) {
                who |= 1 << person;
            }
        }
        return who;
    }

    // ---------------------------------------------------------------- what lies ahead

    public int ending() {
        return endNow();
    }

    private int endNow() {
        trial.copyFrom(now);
        return endOf(told, trial, told.keepers, MOST_AHEAD);
    }

    public int first() {
        trial.copyFrom(now);
        for (int n = 0; n < MOST_AHEAD && trial.owned == 0; n++) {
            dawn(told, trial, told.keepers);
        }
        return trial.owned == 0 ? NONE : trial.gone - now.gone;
    }

    public int will(int n, int what) {
        if (n < 1 || n > MOST_AHEAD || what < 0 || what > 1) {
            return NONE;
        }
        trial.copyFrom(now);
        int who = 0;
        for (int i = 0; i < n; i++) {
            who = what == 1 ? foggyDawn(told, trial, told.keepers) : dawn(told, trial, told.keepers);
        }
        return who;
    }

    public int worldsAt(int n) {
        if (n < 0 || n > MOST_AHEAD) {
            return NONE;
        }
        trial.copyFrom(now);
        for (int i = 0; i < n; i++) {
            dawn(told, trial, told.keepers);
        }
        return Long.bitCount(trial.left);
    }

    public int within(int n) {
        if (n < 1 || n > MOST_WORLDS) {
            return NONE;
        }
        trial.copyFrom(now);
        for (int i = 0; i < MOST_AHEAD && Long.bitCount(trial.left) > n; i++) {
            dawn(told, trial, told.keepers);
        }
        return Long.bitCount(trial.left) > n ? NONE : trial.gone - now.gone;
    }

    public int group(int person, int what) {
        return isPerson(person) ? countOrSet(bestGroup(person), what) : NONE;
    }

    private int bestGroup(int person) {
        int best = NONE;
        for (int set = 0; set < 1 << told.people; set++) {
            if (tellSame(now.left & likeTrue(knownAmong(set)), person)) {
                best = lesser(best, Integer.bitCount(set) * MOST_WORLDS + set);
            }
        }
        return best;
    }

    private int knownAmong(int set) {
        int known = 0;
        for (int person = 0; person < told.people; person++) {
            if ((set >>> person & 1) == 1) {
                known |= now.knownTo(person);
            }
        }
        return known;
    }

    public int call(int what) {
        int best = NONE;
        for (int person = 0; person < told.people; person++) {
            long yes = knowing(told, now, person, KEEPING[person]);
            long stay = has(yes, told.keepers) ? yes : now.left & ~yes;
            best = lesser(best, Long.bitCount(stay) * MOST_PEOPLE + person);
        }
        return oneOrNumber(best, what);
    }

    public int hint(int what) {
        int best = NONE;
        for (int person = 0; person < told.people; person++) {
            for (int other = 0; other < told.people; other++) {
                if (canWhisper(person, other)) {
                    trial.copyFrom(now);
                    trial.addKnown(person, 1 << other);
                    best = lesser(best, endOfTwo(person, other));
                }
            }
        }
        return twoOrEnd(best, what);
    }

    public int meeting(int what) {
        int best = NONE;
        for (int person = 0; person < told.people; person++) {
            for (int other = person + 1; other < told.people; other++) {
                int both = now.knownTo(person) | now.knownTo(other);
                trial.copyFrom(now);
                trial.addKnown(person, both & ~(1 << person));
                trial.addKnown(other, both & ~(1 << other));
                best = lesser(best, endOfTwo(person, other));
            }
        }
        return twoOrEnd(best, what);
    }

    /** The trial's end with the two who brought it about behind it, so that the least is the best. */
    private int endOfTwo(int person, int other) {
        int end = endOf(told, trial, told.keepers, MOST_AHEAD);
        return end == NONE ? NONE : (end * MOST_PEOPLE + person) * MOST_PEOPLE + other;
    }

    private int twoOrEnd(int best, int what) {
        int end = best / (MOST_PEOPLE * MOST_PEOPLE);
        int before = endNow();
        if (best == NONE || before != NONE && end >= before) {
            return NONE;
        }
        switch (what) {
            case 0: return best / MOST_PEOPLE % MOST_PEOPLE;
            case 1: return best % MOST_PEOPLE;
            case 2: return end;
            default: return NONE;
        }
    }

    public int pin(int what) {
        int best = NONE;
        for (int person = 0; person < told.people; person++) {
            trial.copyFrom(now);
            trial.left &= likeTrue(1 << person);
            int end = endOf(told, trial, told.keepers, MOST_AHEAD);
            if (end != NONE) {
                best = lesser(best, end * MOST_PEOPLE + person);
            }
        }
        return oneOrNumber(best, what);
    }

    public int pegs(int n, int what) {
        return n < 0 || n > MOST_TALE ? NONE : countOrSet(bestPegs(n), what);
    }

    private int bestPegs(int n) {
        int best = NONE;
        for (int set = 0; set < 1 << told.people; set++) {
            int rank = Integer.bitCount(set) * MOST_WORLDS + set;
            if (best == NONE || rank < best) {
                trial.copyFrom(now);
                trial.left &= likeTrue(set);
                best = endOf(told, trial, told.keepers, n) == NONE ? best : rank;
            }
        }
        return best;
    }

    public int spy(int person, int what) {
        return isPerson(person) ? countOrSet(bestSpying(person), what) : NONE;
    }

    private int bestSpying(int person) {
        int best = NONE;
        for (int set = 0; set < 1 << told.people; set++) {
            boolean others = (set >>> person & 1) == 0;
            if (others && tellSame(now.left & likeTrue(now.knownTo(person) | set), person)) {
                best = lesser(best, Integer.bitCount(set) * MOST_WORLDS + set);
            }
        }
        return best;
    }

    public int fate(int world) {
        return isPossible(world) ? fateOf(world) : NONE;
    }

    private int fateOf(int world) {
        trial.copyFrom(now);
        return endOf(told, trial, world, MOST_AHEAD);
    }

    public int latest() {
        int late = NONE;
        int latestEnd = -1;
        for (int world = 0; world < 1 << told.people; world++) {
            if (has(now.left, world)) {
                int end = fateOf(world);
                int asLate = end == NONE ? MOST_AHEAD + 1 : end;
                if (asLate > latestEnd) {
                    latestEnd = asLate;
                    late = world;
                }
            }
        }
        return late;
    }

    public int tale(int world) {
        lyingCount = 0;
        if (!isPossible(world)) {
            return NONE;
        }
        trial.copyFrom(now);
        for (int i = 0; i < MOST_TALE && (world & ~trial.owned) != 0; i++) {
            lying[i] = dawn(told, trial, world);
            lyingCount = i + 1;
        }
        return lyingCount;
    }

    public int lies(int i) {
        return i >= 0 && i < lyingCount ? lying[i] : NONE;
    }

    public int odds(int n, int part) {
        if (n < 0 || n > 4) {
            return NONE;
        }
        int upper = 1;
        int lower = 1;
        for (int i = 0; i < n; i++) {
            upper *= 100 - told.fog;
            lower *= 100;
        }
        return lowest(upper, lower, part);
    }

    // ---------------------------------------------------------------- who kept something

    public int seen(int morning, int person, boolean is) {
        if (morning < 1 || morning > MOST_TALE || !isPerson(person)) {
            return NONE;
        }
        return sightings.add(morning, person, is, time);
    }

    public boolean untell(int seen) {
        return sightings.withdraw(seen, time);
    }

    public int later(int by) {
        if (by < 0 || by > MOST_LATER || time + by > MOST_TIME) {
            return NONE;
        }
        time += by;
        return time;
    }

    public int fits(int k) {
        return Long.bitCount(sightings.fitting(told, k));
    }

    public int sure(int person, int k) {
        if (!isPerson(person)) {
            return NONE;
        }
        long fitting = sightings.fitting(told, k);
        if (fitting == 0) {
            return NONE;
        }
        if (!tellSame(fitting, person)) {
            return NOT_SAME;
        }
        return (fitting & KEEPING[person]) == 0 ? 0 : 1;
    }

    public int next(int morning, int what, int k) {
        long fitting = sightings.fitting(told, k);
        if (morning < 1 || morning > MOST_TALE || fitting == 0) {
            return NONE;
        }
        int best = NONE;
        for (int person = 0; person < told.people; person++) {
            int yes = Long.bitCount(fitting & sightings.ownersOn(morning, person));
            int most = Math.max(yes, Long.bitCount(fitting) - yes);
            best = lesser(best, most * MOST_PEOPLE + person);
        }
        return oneOrNumber(best, what);
    }

    // ---------------------------------------------------------------- images

    public int image(int box) {
        if (box < 0 || box >= BOXES) {
            return NONE;
        }
        boxes[box].copyFrom(now);
        kept[box] = true;
        return now.gone;
    }

    public int back(int box) {
        if (box < 0 || box >= BOXES || !kept[box]) {
            return NONE;
        }
        now.copyFrom(boxes[box]);
        acts.forget();
        return now.gone;
    }

    public int about(int what) {
        switch (what) {
            case 0: return told.people;
            case 1: return told.keepers;
            case 2: return now.owned;
            case 3: return now.gone;
            case 4: return now.seed;
            case 5: return acts.done;
            case 6: return acts.undone;
            case 7: return sightings.count;
            case 8: return time;
            case 9: return reader.length;
            case 10: return told.units;
            case 11: return told.fog;
            case 12: return lyingCount;
            default: return NONE;
        }
    }

    // ---------------------------------------------------------------- sets of worlds

    private static boolean has(long set, int world) {
        return (set >>> world & 1) == 1;
    }

    /** All worlds, possible or not, that tell the same as one of a set of all of a set of people. */
    private static long spread(long set, int whom, int people) {
        long all = set;
        for (int person = 0; person < people; person++) {
            if ((whom >>> person & 1) == 0) {
                long keeping = KEEPING[person];
                int by = 1 << person;
                all |= (all & keeping) >>> by | (all & ~keeping) << by;
            }
        }
        return all;
    }

    private static boolean tellSame(long set, int person) {
        long keeping = set & KEEPING[person];
        return keeping == 0 || keeping == set;
    }

    /** The possible worlds in which one knows that something is so: he takes none in which it isn't. */
    private static long knowing(Told told, Day day, int person, long so) {
        return day.left & ~spread(day.left & ~so, day.knownTo(person), told.people);
    }

    private static long owning(Told told, Day day, int person) {
        return day.gone < told.bears[person] ? 0 : knowing(told, day, person, KEEPING[person]);
    }

    /** A morning without fog, were that world the true one: who owns. */
    private static int dawn(Told told, Day day, int world) {
        int who = 0;
        long stay = day.left;
        for (int person = 0; person < told.people; person++) {
            long owns = owning(told, day, person);
            if (has(owns, world)) {
                who |= 1 << person;
                stay &= owns;
            } else {
                stay &= ~owns;
            }
        }
        day.left = stay;
        day.owned |= who;
        day.gone++;
        return who;
    }

    private static int foggyDawn(Told told, Day day, int world) {
        day.seed = (day.seed * 137 + 71) % 1000;
        if (day.seed % 100 < told.fog) {
            day.gone++;
            return 0;
        }
        return dawn(told, day, world);
    }

    /** Behind how many mornings (up to a limit) all keepers of a world have owned; the day goes on. */
    private static int endOf(Told told, Day day, int world, int limit) {
        for (int n = 0; n < limit; n++) {
            if ((world & ~day.owned) == 0) {
                return n;
            }
            long left = day.left;
            int owned = day.owned;
            boolean nobodyBears = day.gone >= told.longest;
            dawn(told, day, world);
            // A morning that changes nothing when nobody has to bear it any more is like all later ones.
            if (nobodyBears && day.left == left && day.owned == owned) {
                return NONE;
            }
        }
        return (world & ~day.owned) == 0 ? limit : NONE;
    }

    // ---------------------------------------------------------------- the best of many

    /** The lesser one of two rankings, of which NONE is none at all. */
    private static int lesser(int best, int other) {
        if (best == NONE || other == NONE) {
            return Math.max(best, other);
        }
        return Math.min(best, other);
    }

    private static int oneOrNumber(int best, int what) {
        if (best == NONE) {
            return NONE;
        }
        switch (what) {
            case 0: return best % MOST_PEOPLE;
            case 1: return best / MOST_PEOPLE;
            default: return NONE;
        }
    }

    private static int countOrSet(int best, int what) {
        if (best == NONE) {
            return NONE;
        }
        switch (what) {
            case 0: return best / MOST_WORLDS;
            case 1: return best % MOST_WORLDS;
            default: return NONE;
        }
    }

    /** The upper (0) or lower (1) part of a fraction in lowest terms. */
    private static int lowest(int upper, int lower, int part) {
        int divisor = lower;
        int rest = upper;
        for (int i = 0; i < MOST_WORLDS && rest != 0; i++) {
            int next = divisor % rest;
            divisor = rest;
            rest = next;
        }
        if (divisor == 0) {
            return NONE;
        }
        switch (part) {
            case 0: return upper / divisor;
            case 1: return lower / divisor;
            default: return NONE;
        }
    }

    // ---------------------------------------------------------------- classes inside

    /** All that acts change: what an act keeps, a box holds, and what lies ahead is tried on. */
    private static final class Day {
        private long left = 0;
        /** Of whom each knows: six bits for each of the people. */
        private long known = 0;
        private int owned = 0;
        private int gone = 0;
        private int seed = 0;

        private void copyFrom(Day other) {
            left = other.left;
            known = other.known;
            owned = other.owned;
            gone = other.gone;
            seed = other.seed;
        }

        private int knownTo(int person) {
            return (int) (known >>> MOST_PEOPLE * person) & 63;
        }

        private void addKnown(int person, int whom) {
            known |= (long) whom << MOST_PEOPLE * person;
        }
    }

    /** A parish as its text tells it. */
    private static final class Told {
        private int people = 0;
        private int keepers = 0;
        private final int[] shame = new int[MOST_PEOPLE];
        private final int[] bears = new int[MOST_PEOPLE];
        private int longest = 0;
        /** Who knows of whom and the seed as told; its worlds depend on which one is true. */
        private final Day firstDay = new Day();
        private int fog = 0;
        private int units = 0;
        private final int[] signs = new int[MOST_WORLDS];

        private void clear() {
            people = 0;
            keepers = 0;
            longest = 0;
            fog = 0;
            units = 0;
            firstDay.known = 0;
            firstDay.seed = 0;
        }

        private void copyFrom(Told other) {
            people = other.people;
            keepers = other.keepers;
            longest = other.longest;
            fog = other.fog;
            units = other.units;
            firstDay.copyFrom(other.firstDay);
            System.arraycopy(other.shame, 0, shame, 0, MOST_PEOPLE);
            System.arraycopy(other.bears, 0, bears, 0, MOST_PEOPLE);
            System.arraycopy(other.signs, 0, signs, 0, MOST_WORLDS);
        }

        /** The day at first, were that world the true one. */
        private void startDay(Day day, int world) {
            day.copyFrom(firstDay);
            boolean up = signs[world] > 0;
            for (int other = 0; other < 1 << people; other++) {
                if (signs[other] > 0 == up) {
                    day.left |= 1L << other;
                }
            }
        }

        private long signedLike(int world) {
            long like = 0;
            for (int other = 0; other < 1 << people; other++) {
                if (signs[other] == signs[world]) {
                    like |= 1L << other;
                }
            }
            return like;
        }

        private int shameIn(int world) {
            int sum = 0;
            for (int person = 0; person < people; person++) {
                sum += (world >>> person & 1) * shame[person];
            }
            return sum;
        }
    }

    /** The days before acts, to be taken back, and those behind acts taken back, to be done again. */
    private static final class Acts {
        /** A ring, so that the oldest one can go without the others being moved. */
        private final Day[] before = new Day[MOST_ACTS];
        private final Day[] behind = new Day[MOST_ACTS];
        private int oldest = 0;
        private int done = 0;
        private int undone = 0;

        private Acts() {
            for (int i = 0; i < MOST_ACTS; i++) {
                before[i] = new Day();
                behind[i] = new Day();
            }
        }

        private void forget() {
            done = 0;
            undone = 0;
        }

        private void keep(Day now) {
            undone = 0;
            push(now);
        }

        private void push(Day now) {
            if (done == MOST_ACTS) {
                oldest = (oldest + 1) % MOST_ACTS;
                done--;
            }
            before[(oldest + done) % MOST_ACTS].copyFrom(now);
            done++;
        }

        private boolean takeBack(Day now) {
            if (done == 0 || undone >= MOST_ACTS) {
                return false;
            }
            behind[undone].copyFrom(now);
            undone++;
            done--;
            now.copyFrom(before[(oldest + done) % MOST_ACTS]);
            return true;
        }

        private boolean doAgain(Day now) {
            if (undone == 0) {
                return false;
            }
            push(now);
            undone--;
            now.copyFrom(behind[undone]);
            return true;
        }
    }

    /** What was seen of a parish whose keepers are not known, told and untold at times. */
    private static final class Sightings {
        private final int[] mornings = new int[MOST_SEEN];
        private final int[] whose = new int[MOST_SEEN];
        private final boolean[] didOwn = new boolean[MOST_SEEN];
        private final int[] toldAt = new int[MOST_SEEN];
        private final int[] untoldAt = new int[MOST_SEEN];
        private int count = 0;
        /** For each morning and each of the people the worlds by which he owns on it. */
        private final long[] owners = new long[MOST_TALE * MOST_PEOPLE];
        private final int[] whoOn = new int[MOST_TALE];
        private boolean followed = false;
        private final Day trial = new Day();

        private void forget() {
            count = 0;
            followed = false;
        }

        private int add(int morning, int person, boolean is, int time) {
            if (count >= MOST_SEEN) {
                return NONE;
            }
            mornings[count] = morning;
            whose[count] = person;
            didOwn[count] = is;
            toldAt[count] = time;
            untoldAt[count] = NONE;
            count++;
            return count - 1;
        }

        private boolean withdraw(int number, int time) {
            if (number < 0 || number >= count || untoldAt[number] != NONE) {
                return false;
            }
            untoldAt[number] = time;
            return true;
        }

        private boolean countsAt(int number, int k) {
            boolean gone = untoldAt[number] != NONE && untoldAt[number] <= k;
            return toldAt[number] <= k && !gone;
        }

        private long fitting(Told told, int k) {
            followAll(told);
            long fitting = 0;
            for (int world = 0; world < 1 << told.people; world++) {
                fitting |= 1L << world;
            }
            for (int i = 0; i < count; i++) {
                if (countsAt(i, k)) {
                    long owns = ownersOn(mornings[i], whose[i]);
                    fitting &= didOwn[i] ? owns : ~owns;
                }
            }
            return fitting;
        }

        private long ownersOn(int morning, int person) {
            int at = (morning - 1) * MOST_PEOPLE + person;
            return at >= 0 && at < owners.length ? owners[at] : 0;
        }

        /** Worked out when first asked for: most parishes are never looked at so. */
        private void followAll(Told told) {
            if (followed) {
                return;
            }
            for (int i = 0; i < owners.length; i++) {
                owners[i] = 0;
            }
            long done = 0;
            for (int world = 0; world < 1 << told.people; world++) {
                if (!has(done, world)) {
                    done |= follow(told, world);
                }
            }
            followed = true;
        }

        /** Worlds left behind the mornings had the same ones own on each, so they are done with it. */
        private long follow(Told told, int world) {
            told.startDay(trial, world);
            for (int i = 0; i < MOST_TALE; i++) {
                whoOn[i] = dawn(told, trial, world);
            }
            for (int i = 0; i < owners.length; i++) {
                if ((whoOn[i / MOST_PEOPLE] >>> i % MOST_PEOPLE & 1) == 1) {
                    owners[i] |= trial.left;
                }
            }
            return trial.left;
        }
    }

    /** A formula with each sign behind what it joins: numbers as they are, tokens below 0. */
    private static final class Formula {
        /** Thirty units, signs between them, and seven times not before each are less than this. */
        private final int[] codes = new int[300];
        private final int[] stack = new int[64];
        private int length = 0;

        private void add(int code) {
            if (length < codes.length) {
                codes[length] = code;
                length++;
            }
        }

        private int valueIn(Told told, int world) {
            int height = 0;
            for (int i = 0; i < length; i++) {
                int code = codes[i];
                if (isUnit(code) && height < stack.length) {
                    stack[height] = unitIn(told, world, code);
                    height++;
                } else if (code == -NOT && height > 0) {
                    stack[height - 1] = stack[height - 1] == 0 ? 1 : 0;
                } else if (height > 1) {
                    height--;
                    stack[height - 1] = join(code, stack[height - 1], stack[height]);
                }
            }
            return stack[0];
        }

        private static boolean isUnit(int code) {
            return code >= 0 || -code >= SHAME && -code <= PEOPLE;
        }

        private static int unitIn(Told told, int world, int code) {
            switch (-code) {
                case MANY: return Integer.bitCount(world);
                case SHAME: return told.shameIn(world);
                case FIRST: return world == 0 ? -1 : Integer.numberOfTrailingZeros(world);
                case LAST: return 31 - Integer.numberOfLeadingZeros(world);
                case PEOPLE: return told.people;
                default: return code;
            }
        }

        private static int join(int code, int left, int right) {
            switch (-code) {
                case OR: return left != 0 || right != 0 ? 1 : 0;
                case AND: return left != 0 && right != 0 ? 1 : 0;
                case '<': return left < right ? 1 : 0;
                case '>': return left > right ? 1 : 0;
                case '=': return left == right ? 1 : 0;
                case '+': return left + right;
                case '-': return left - right;
                case '*': return left * right;
                case '/': return right == 0 ? 0 : left / right;
                case '%': return right == 0 ? 0 : left % right;
                default: return 0;
            }
        }
    }

    /**
     * The tape, read token by token, each looked at before the next one is read: so the first fault
     * that is found is the first one by its place.
     */
    private static final class Reader {
        /** The tape: its first bytes, as many as length tells. */
        private final byte[] text = new byte[MOST_BYTES];
        private int length = 0;
        /** Filled line by line, and worth something only if no fault was found. */
        private final Told draft = new Told();
        private final Formula formula = new Formula();
        private int token = TEXT_END;
        private int value = 0;
        private int from = 0;
        private int to = 0;
        private final int[] nameFrom = new int[MOST_PEOPLE];
        private final int[] nameTo = new int[MOST_PEOPLE];
        /** Bits for the lines that may stand but once and did. */
        private int toldOnce = 0;
        private int wrong = 0;
        private int place = NONE;

        private void append(int four) {
            for (int shift = 24; shift >= 0 && length < text.length; shift -= 8) {
                text[length] = (byte) (four >>> shift);
                length++;
            }
        }

        private void read() {
            draft.clear();
            formula.length = 0;
            toldOnce = 0;
            wrong = 0;
            place = NONE;
            to = 0;
            advance();
            for (int n = 0; n < MOST_BYTES && wrong == 0 && token != TEXT_END; n++) {
                line();
            }
            if (formula.length == 0) {
                formula.add(-MANY);
            }
            for (int world = 0; world < 1 << draft.people && wrong == 0; world++) {
                draft.signs[world] = formula.valueIn(draft, world);
            }
        }

        private void refuse(int fault) {
            if (wrong == 0) {
                wrong = token == NO_TOKEN ? FAULT_TOKEN : fault;
                place = from;
            }
        }

        // ------------------------------------------------------------ lines

        private void line() {
            switch (token) {
                case PERSON: personLine(); break;
                case KNOWS: knowsLine(); break;
                case SIGN:
                    if (isFirst(1)) {
                        advance();
                        joined(RANK_OR, 0);
                    }
                    break;
                case FOG: draft.fog = isFirst(2) ? number(100) : 0; break;
                case DRAW: draft.firstDay.seed = isFirst(4) ? number(999) : 0; break;
                default: refuse(FAULT_PLACE); break;
            }
            if (token == ';') {
                advance();
            } else {
                refuse(FAULT_PLACE);
            }
        }

        private boolean isFirst(int line) {
            if ((toldOnce & line) != 0) {
                refuse(FAULT_PLACE);
                return false;
            }
            toldOnce |= line;
            return true;
        }

        private void personLine() {
            if (draft.people >= MOST_PEOPLE) {
                refuse(FAULT_PLACE);
                return;
            }
            advance();
            if (token != A_NAME) {
                refuse(FAULT_PLACE);
                return;
            }
            if (named() != NONE) {
                refuse(FAULT_TWICE);
                return;
            }
            int person = draft.people;
            nameFrom[person] = from;
            nameTo[person] = to;
            draft.people++;
            advance();
            if (token == KEEPS) {
                draft.keepers |= 1 << person;
                advance();
            }
            draft.shame[person] = token == SHAME ? number(9) : 0;
            draft.bears[person] = token == BEARS ? number(MOST_BEARS) : 0;
            draft.longest = Math.max(draft.longest, draft.bears[person]);
        }

        private void knowsLine() {
            if (Long.bitCount(draft.firstDay.known) >= MOST_KNOWN) {
                refuse(FAULT_PLACE);
                return;
            }
            advance();
            int person = somebody();
            if (wrong != 0) {
                return;
            }
            advance();
            int other = somebody();
            if (wrong != 0) {
                return;
            }
            if (person == other || (draft.firstDay.knownTo(person) >>> other & 1) == 1) {
                refuse(FAULT_TWICE);
                return;
            }
            draft.firstDay.addKnown(person, 1 << other);
            advance();
        }

        private int somebody() {
            int person = token == A_NAME ? named() : NONE;
            if (person == NONE) {
                refuse(token == A_NAME ? FAULT_NOBODY : FAULT_PLACE);
            }
            return person;
        }

        /** The number behind the word that stands here. */
        private int number(int most) {
            advance();
            if (token != A_NUMBER) {
                refuse(FAULT_PLACE);
                return 0;
            }
            if (value > most) {
                refuse(FAULT_NUMBER);
                return 0;
            }
            int number = value;
            advance();
            return number;
        }

        // ------------------------------------------------------------ the formula

        /** What signs of a rank join, within so many others (units in brackets, ones behind not). */
        private void joined(int rank, int around) {
            if (wrong != 0) {
                return;
            }
            if (rank >= RANK_UNIT) {
                unit(around);
                return;
            }
            if (rank == RANK_RELATION && token == NOT) {
                denied(around);
                return;
            }
            joined(rank + 1, around);
            int most = rank == RANK_RELATION ? 1 : MOST_BYTES;
            for (int n = 0; n < most && wrong == 0 && rankOf(token) == rank; n++) {
                int joint = token;
                advance();
                joined(rank + 1, around);
                formula.add(-joint);
            }
        }

        private void denied(int around) {
            if (around > MOST_AROUND) {
                refuse(FAULT_PLACE);
                return;
            }
            advance();
            joined(RANK_RELATION, around + 1);
            formula.add(-NOT);
        }

        private void unit(int around) {
            boolean word = token >= SHAME && token <= PEOPLE;
            boolean brackets = token == '(' && around <= MOST_AROUND;
            if (draft.units >= MOST_UNITS || !(word || brackets || token == A_NUMBER)) {
                refuse(FAULT_PLACE);
                return;
            }
            draft.units++;
            if (!brackets) {
                formula.add(word ? -token : value);
                advance();
                return;
            }
            advance();
            joined(RANK_OR, around + 1);
            if (token == ')') {
                advance();
            } else {
                refuse(FAULT_PLACE);
            }
        }

        private static int rankOf(int token) {
            switch (token) {
                case OR: return RANK_OR;
                case AND: return RANK_AND;
                case '<': case '>': case '=': return RANK_RELATION;
                case '+': case '-': return RANK_SUM;
                case '*': case '/': case '%': return RANK_TERM;
                default: return NONE;
            }
        }

        // ------------------------------------------------------------ tokens

        private void advance() {
            from = to;
            while (from < length && (text[from] == ' ' || text[from] == '\n')) {
                from++;
            }
            to = from;
            if (from >= length) {
                token = TEXT_END;
            } else if (isLetter(from)) {
                readWord();
            } else if (isDigit(from)) {
                readNumber();
            } else {
                token = isSign(text[from]) ? text[from] : NO_TOKEN;
                to = from + 1;
            }
        }

        private void readWord() {
            while (to < length && isLetter(to)) {
                to++;
            }
            token = to - from > MOST_LETTERS ? NO_TOKEN : wordCode();
        }

        private void readNumber() {
            value = 0;
            // Digits beyond the fourth make it no token, so that what they add does not matter.
            while (to < length && isDigit(to)) {
                value = value * 10 + text[to] - '0';
                to++;
            }
            boolean ends = to - from <= MOST_DIGITS && !(to < length && isLetter(to));
            token = ends ? A_NUMBER : NO_TOKEN;
        }

        private boolean isLetter(int at) {
            return text[at] >= 'a' && text[at] <= 'z';
        }

        private boolean isDigit(int at) {
            return text[at] >= '0' && text[at] <= '9';
        }

        private static boolean isSign(int character) {
            return character == ';' || character == '(' || character == ')' || rankOf(character) != NONE;
        }

        private int wordCode() {
            int code = PERSON;
            int same = 0;
            for (int i = 0; i < WORDS.length(); i++) {
                char letter = WORDS.charAt(i);
                if (letter == ' ') {
                    if (same == to - from) {
                        return code;
                    }
                    code++;
                    same = 0;
                } else {
                    // Once below 0 it stays there till the blank: the word is another one.
                    boolean fits = same >= 0 && from + same < to && text[from + same] == letter;
                    same = fits ? same + 1 : NONE;
                }
            }
            return A_NAME;
        }

        /** Which of the people has the name that stands here. */
        private int named() {
            for (int person = 0; person < draft.people; person++) {
                if (sameText(nameFrom[person], nameTo[person])) {
                    return person;
                }
            }
            return NONE;
        }

        private boolean sameText(int otherFrom, int otherTo) {
            if (otherTo - otherFrom != to - from) {
                return false;
            }
            for (int i = 0; i < to - from; i++) {
                if (text[otherFrom + i] != text[from + i]) {
                    return false;
                }
            }
            return true;
        }
    }
}
