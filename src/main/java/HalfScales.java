/**
 * An inspector of halves, as DOC.md tells him: every refusal is a number, so nothing in here throws.
 *
 * All rows are made with the object and used again: what a call made would stay in the room of its run.
 */
public final class HalfScales {

    public static final int BAD = -1, STATE = -2, FULL = -3, NONE = -4;

    private static final int FEWEST_CELLS = 2;
    private static final int MOST_CELLS = 8;
    private static final int MOST_WEIGHT = 9;
    private static final int MOST_PEOPLE = 4;
    private static final int MOST_SLIP = 9;
    private static final int MOST_FINE = 99;
    private static final int MOST_COST = 99;
    private static final int FEWEST_HALVES = 2;
    private static final int MOST_HALVES = 5;
    private static final int MOST_PAIRS = 8;
    private static final int MOST_SEEN = 6;
    private static final int MOST_BYTES = 160;
    private static final int MOST_DRIFTS = 60;
    private static final int MOST_READS = 20;
    private static final int IMAGES = 2;
    private static final int SHEETS = 4;

    private static final int PLAIN = 0;
    private static final int CHILD = 1;
    private static final int SWEET = 2;
    private static final int DEALER = 3;

    private static final int JUST = 0;
    private static final int LEFT_MORE = 1;
    private static final int RIGHT_MORE = 2;

    private final Thing now = new Thing();
    private final Thing trial = new Thing();
    private final Thing[] images = new Thing[IMAGES];
    private final boolean[] imageThere = new boolean[IMAGES];
    private final Teller teller = new Teller();
    private final Ranks ranks = new Ranks();
    private final Court court = new Court();
    private final Sheet[] sheets = new Sheet[SHEETS];
    private int latestFault;
    private int latestTorn;

    public HalfScales() {
        for (int k = 0; k < IMAGES; k++) {
            images[k] = new Thing();
        }
        for (int k = 0; k < SHEETS; k++) {
            sheets[k] = new Sheet();
        }
    }

    // ---- the text

    public int feed(int c) {
        Tape tape = teller.tape;
        if (!within(c, 0, 127)) {
            return BAD;
        }
        if (tape.length >= MOST_BYTES) {
            return FULL;
        }
        tape.bytes[tape.length] = c;
        tape.length++;
        return tape.length;
    }

    public int end(int n) {
        Tape tape = teller.tape;
        if (!within(n, 0, tape.length)) {
            return BAD;
        }
        int had = tape.length;
        tape.length = n;
        return had;
    }

    public int text() {
        int lines = teller.tellAll(ranks);
        teller.tape.length = 0;
        latestFault = teller.faultMet;
        if (latestFault != 0) {
            return -10 - teller.place;
        }
        now.copyFrom(teller.draft);
        for (int k = 0; k < IMAGES; k++) {
            imageThere[k] = false;
        }
        return lines;
    }

    public int fault() {
        return latestFault;
    }

    public int rule(int what) {
        switch (what) {
            case 0: return now.cellCount;
            case 1: return now.peopleCount;
            case 2: return now.slip;
            case 3: return now.fine;
            case 4: return now.appealCount;
            case 5: return now.halfCount;
            case 6: return now.pairCount;
            case 7: return now.allWeights();
            default: return BAD;
        }
    }

    public int cell(int i) {
        return now.isCell(i) ? now.weights[i] : BAD;
    }

    public int person(int p) {
        return now.isPerson(p) ? now.kindOf[p] : BAD;
    }

    public int pair(int i) {
        if (!within(i, 0, now.pairCount - 1)) {
            return BAD;
        }
        return 10 * now.light[i] + now.heavy[i];
    }

    // ---- what is changed

    public int weigh(int i, int v) {
        if (!now.canWeigh(i, v)) {
            return BAD;
        }
        int was = now.weights[i];
        now.weights[i] = v;
        return was;
    }

    public int split(int i) {
        if (!now.isCell(i)) {
            return BAD;
        }
        if (now.cellCount >= MOST_CELLS) {
            return FULL;
        }
        now.splitCell(i);
        return now.cellCount;
    }

    public int join(int i) {
        if (!now.isCell(i) || !now.isCell(i + 1)) {
            return BAD;
        }
        if (now.cellCount <= FEWEST_CELLS) {
            return STATE;
        }
        now.joinWithNext(i);
        return now.cellCount;
    }

    public int teach(int p, int kind) {
        if (!now.isPerson(p) || !within(kind, PLAIN, DEALER)) {
            return BAD;
        }
        int was = now.kindOf[p];
        now.kindOf[p] = kind;
        return was;
    }

    public int set(int what, int v) {
        if (what == 2 && within(v, 0, MOST_SLIP)) {
            int was = now.slip;
            now.slip = v;
            return was;
        }
        if (what == 3 && within(v, 0, MOST_FINE)) {
            int was = now.fine;
            now.fine = v;
            return was;
        }
        return BAD;
    }

    public int appeal() {
        if (now.fine <= 1) {
            return STATE;
        }
        now.fine = halfUp(now.fine);
        now.appealCount++;
        return now.fine;
    }

    public int lighter(int a, int b) {
        if (!now.isHalf(a) || !now.isHalf(b) || a == b) {
            return BAD;
        }
        if (now.pairCount >= MOST_PAIRS) {
            return FULL;
        }
        ranks.learn(now);
        if (ranks.howManyWith(a, b) == 0) {
            return STATE;
        }
        now.addPair(a, b);
        return now.pairCount;
    }

    // ---- what it is worth

    public int worth(int p, int some) {
        if (!now.isPerson(p) || !within(some, 0, now.allCells())) {
            return BAD;
        }
        return now.worthOf(p, some);
    }

    public int finds(int p, int k) {
        if (!now.isPerson(p) || !now.isCut(k)) {
            return BAD;
        }
        return now.verdict(p, k);
    }

    public int just(int k) {
        return now.isCut(k) ? now.justTo(k) : BAD;
    }

    public int middle(int what) {
        if (!within(what, 0, 1)) {
            return BAD;
        }
        int best = 1;
        int most = Integer.bitCount(now.justTo(1));
        for (int k = 2; k < now.cellCount; k++) {
            int many = Integer.bitCount(now.justTo(k));
            if (many > most) {
                best = k;
                most = many;
            }
        }
        return what == 0 ? best : most;
    }

    public int honest(int p) {
        return now.isPerson(p) ? Cutter.honestCut(now, p) : BAD;
    }

    public int chosen(int p, int q, int what) {
        if (!areTwo(p, q) || !within(what, 0, 2)) {
            return BAD;
        }
        int taken = Cutter.choice(now, q, Cutter.honestCut(now, p));
        int rest = now.allCells() & ~taken;
        if (what == 0) {
            return now.worthOf(p, rest);
        }
        if (what == 1) {
            return now.worthOf(q, taken);
        }
        return now.worthOf(p, taken) > now.worthOf(p, rest) ? 1 : 0;
    }

    public int sly(int p, int q, int what) {
        if (!areTwo(p, q) || !within(what, 0, 1)) {
            return BAD;
        }
        int cut = Cutter.slyCut(now, p, q);
        return what == 0 ? cut : Cutter.leftOver(now, p, q, cut);
    }

    public int halves(int some, int what) {
        if (!within(some, 0, now.allPeople()) || !within(what, 0, 1)) {
            return BAD;
        }
        int share = Cutter.fewestCuts(now, some);
        if (share == NONE) {
            return NONE;
        }
        return what == 0 ? Cutter.cutsOf(now, share) : share;
    }

    // ---- fines

    public int stop(int cost, int what) {
        if (!within(cost, 0, MOST_COST) || !within(what, 0, 1)) {
            return BAD;
        }
        int fine = now.fine;
        int best = 0;
        int least = fine;
        for (int n = 1; n <= MOST_FINE && fine > 1; n++) {
            fine = halfUp(fine);
            if (fine + n * cost < least) {
                best = n;
                least = fine + n * cost;
            }
        }
        return what == 0 ? best : least;
    }

    // ---- the case

    public int orders(int what) {
        ranks.learn(now);
        if (what == 0) {
            return ranks.howMany();
        }
        if (what == 1) {
            return ranks.lightest();
        }
        if (what == 2) {
            return ranks.heaviest();
        }
        return within(what, 10, 9 + now.halfCount) ? ranks.ofFirst(what - 10) : BAD;
    }

    public int next(int what) {
        if (!within(what, 0, 1)) {
            return BAD;
        }
        ranks.learn(now);
        int least = ranks.howMany();
        int best = NONE;
        for (int a = 0; a < now.halfCount; a++) {
            for (int b = a + 1; b < now.halfCount; b++) {
                int left = Math.max(ranks.howManyWith(a, b), ranks.howManyWith(b, a));
                if (left < least) {
                    least = left;
                    best = 10 * a + b;
                }
            }
        }
        return what == 0 || best == NONE ? best : least;
    }

    // ---- a court

    public long luck(int v, int k, int what) {
        if (!isTrial(v, k, what)) {
            return BAD;
        }
        return court.majority(v, now.justTo(k), now.peopleCount, what);
    }

    public long mean(int v, int k, int what) {
        if (!isTrial(v, k, what)) {
            return BAD;
        }
        return Court.expected(v, now.justTo(k), now.peopleCount, what);
    }

    // ---- what was found

    public int see(int p, int k, int found) {
        if (!now.isPerson(p) || !now.isCut(k) || !within(found, JUST, RIGHT_MORE)) {
            return BAD;
        }
        if (now.seenCount >= MOST_SEEN) {
            return FULL;
        }
        now.addSeen(p, k, found);
        return now.seenCount;
    }

    public int forget(int n) {
        if (!within(n, 0, now.seenCount)) {
            return BAD;
        }
        int were = now.seenCount;
        now.seenCount = n;
        return were;
    }

    public int fits(int i) {
        if (!now.isCell(i)) {
            return BAD;
        }
        trial.copyFrom(now);
        int found = 0;
        for (int v = 0; v <= MOST_WEIGHT; v++) {
            trial.weights[i] = v;
            if (trial.isAsSeen()) {
                found |= 1 << v;
            }
        }
        return found;
    }

    public int kinds(int p) {
        if (!now.isPerson(p)) {
            return BAD;
        }
        trial.copyFrom(now);
        int found = 0;
        for (int kind = PLAIN; kind <= DEALER; kind++) {
            trial.kindOf[p] = kind;
            if (trial.isAsSeen()) {
                found |= 1 << kind;
            }
        }
        return found;
    }

    // ---- by a seed

    public int drift(int seed, int n, int what) {
        if (!within(n, 1, MOST_DRIFTS) || !within(what, 0, 1)) {
            return BAD;
        }
        trial.copyFrom(now);
        int at = seed;
        int sum = 0;
        for (int i = 0; i < n && trial.cellCount > 0; i++) {
            at = at * 1103515245 + 12345;
            int got = (at >>> 16) & 0x7fff;
            trial.weights[got % trial.cellCount] = got / 8 % 10;
            if (what == 0) {
                sum += trial.justInAll();
            }
        }
        return what == 0 ? sum : trial.allWeights();
    }

    // ---- images, sheets

    public int keep(int k) {
        if (!within(k, 0, IMAGES - 1)) {
            return BAD;
        }
        int was = imageThere[k] ? 1 : 0;
        images[k].copyFrom(now);
        imageThere[k] = true;
        return was;
    }

    public int back(int k) {
        if (!within(k, 0, IMAGES - 1)) {
            return BAD;
        }
        if (!imageThere[k]) {
            return STATE;
        }
        now.copyFrom(images[k]);
        return now.cellCount;
    }

    public int sheet(int k, int lane, int n) {
        if (!isSheet(k) || !Sheet.isLane(lane) || n > Sheet.MOST) {
            return BAD;
        }
        if (n < 0) {
            return -10 - Sheet.SIZE;
        }
        sheets[k].renew(lane, n);
        return 1;
    }

    public int lay(int k, int i, int v) {
        if (!isSheet(k)) {
            return BAD;
        }
        int found = sheets[k].faultAt(i);
        if (found != 0) {
            return -10 - found;
        }
        sheets[k].put(i, v);
        return 1;
    }

    public int read(int k, int lane, int f, int n) {
        if (!isSheet(k) || !Sheet.isLane(lane) || !within(n, 0, MOST_READS)) {
            return BAD;
        }
        Sheet from = sheets[k];
        int found = 0;
        int whole = 0;
        for (int i = 0; i < n && found == 0; i++) {
            found = from.faultOfTwo(lane, f + 2 * i);
            if (found == 0) {
                if (!now.canWeigh(from.at(f + 2 * i), from.at(f + 2 * i + 1))) {
                    return -20 - i;
                }
                whole++;
            }
        }
        // Only now is it sure that none of them is refused.
        for (int i = 0; i < whole; i++) {
            weigh(from.at(f + 2 * i), from.at(f + 2 * i + 1));
        }
        latestTorn = found;
        return whole;
    }

    public int torn() {
        return latestTorn;
    }

    public int count(int what) {
        switch (what) {
            case 0: return now.seenCount;
            case 1: return imagesThere();
            case 2: return teller.tape.length;
            case 3: return sheets[0].isNothing() ? NONE : sheets[0].size;
            default: return BAD;
        }
    }

    // ---- inside

    private int imagesThere() {
        int many = 0;
        for (int k = 0; k < IMAGES; k++) {
            if (imageThere[k]) {
                many++;
            }
        }
        return many;
    }

    private boolean areTwo(int p, int q) {
        return now.isPerson(p) && now.isPerson(q) && p != q;
    }

    private boolean isTrial(int v, int k, int what) {
        return within(v, 0, 10) && now.isCut(k) && within(what, 0, 1);
    }

    private static boolean isSheet(int k) {
        return within(k, 0, SHEETS - 1);
    }

    private static boolean within(int v, int low, int high) {
        return v >= low && v <= high;
    }

    private static int halfUp(int v) {
        return (v + 1) / 2;
    }

    /** All that a text tells and an IMAGE holds. */
    private static final class Thing {

        final int[] weights = new int[MOST_CELLS];
        final int[] kindOf = new int[MOST_PEOPLE];
        final int[] light = new int[MOST_PAIRS];
        final int[] heavy = new int[MOST_PAIRS];
        final int[] seenBy = new int[MOST_SEEN];
        final int[] seenCut = new int[MOST_SEEN];
        final int[] seenFound = new int[MOST_SEEN];
        int cellCount;
        int peopleCount;
        int slip;
        int fine;
        int appealCount;
        int halfCount;
        int pairCount;
        int seenCount;

        Thing() {
            begin();
        }

        void begin() {
            weights[0] = 1;
            weights[1] = 1;
            cellCount = FEWEST_CELLS;
            peopleCount = 0;
            slip = 0;
            fine = 0;
            appealCount = 0;
            halfCount = FEWEST_HALVES;
            pairCount = 0;
            seenCount = 0;
        }

        void copyFrom(Thing other) {
            System.arraycopy(other.weights, 0, weights, 0, MOST_CELLS);
            System.arraycopy(other.kindOf, 0, kindOf, 0, MOST_PEOPLE);
            System.arraycopy(other.light, 0, light, 0, MOST_PAIRS);
            System.arraycopy(other.heavy, 0, heavy, 0, MOST_PAIRS);
            System.arraycopy(other.seenBy, 0, seenBy, 0, MOST_SEEN);
            System.arraycopy(other.seenCut, 0, seenCut, 0, MOST_SEEN);
            System.arraycopy(other.seenFound, 0, seenFound, 0, MOST_SEEN);
            cellCount = other.cellCount;
            peopleCount = other.peopleCount;
            slip = other.slip;
            fine = other.fine;
            appealCount = other.appealCount;
            halfCount = other.halfCount;
            pairCount = other.pairCount;
            seenCount = other.seenCount;
        }

        boolean isCell(int i) {
            return within(i, 0, cellCount - 1);
        }

        boolean isPerson(int p) {
            return within(p, 0, peopleCount - 1);
        }

        boolean isCut(int k) {
            return within(k, 1, cellCount - 1);
        }

        boolean isHalf(int h) {
            return within(h, 0, halfCount - 1);
        }

        boolean canWeigh(int i, int v) {
            return isCell(i) && within(v, 0, MOST_WEIGHT);
        }

        int allCells() {
            return (1 << cellCount) - 1;
        }

        int allPeople() {
            return (1 << peopleCount) - 1;
        }

        int allWeights() {
            int sum = 0;
            for (int i = 0; i < cellCount; i++) {
                sum += weights[i];
            }
            return sum;
        }

        void splitCell(int i) {
            for (int j = cellCount; j > i + 1; j--) {
                weights[j] = weights[j - 1];
            }
            int whole = weights[i];
            weights[i] = halfUp(whole);
            weights[i + 1] = whole - weights[i];
            cellCount++;
        }

        void joinWithNext(int i) {
            weights[i] = Math.min(MOST_WEIGHT, weights[i] + weights[i + 1]);
            for (int j = i + 1; j < cellCount - 1; j++) {
                weights[j] = weights[j + 1];
            }
            cellCount--;
        }

        void addPerson(int kind) {
            kindOf[peopleCount] = kind;
            peopleCount++;
        }

        void addPair(int a, int b) {
            light[pairCount] = a;
            heavy[pairCount] = b;
            pairCount++;
        }

        void addSeen(int p, int k, int found) {
            seenBy[seenCount] = p;
            seenCut[seenCount] = k;
            seenFound[seenCount] = found;
            seenCount++;
        }

        int worthOfCell(int p, int i) {
            int weight = weights[i];
            int kind = kindOf[p];
            if (kind == DEALER) {
                return weight / 2;
            }
            int value = i == 0 && kind != PLAIN ? 2 * weight : weight;
            return kind == SWEET && weight % 2 == 1 ? value + 1 : value;
        }

        int worthOf(int p, int cells) {
            int sum = 0;
            for (int i = 0; i < cellCount; i++) {
                if ((cells >> i & 1) == 1) {
                    sum += worthOfCell(p, i);
                }
            }
            return sum;
        }

        /** How much more a share is worth to somebody than all other CELLS; below 0, if less. */
        int lead(int p, int cells) {
            int more = 0;
            for (int i = 0; i < cellCount; i++) {
                int value = worthOfCell(p, i);
                more += (cells >> i & 1) == 1 ? value : -value;
            }
            return more;
        }

        int leftOf(int k) {
            return (1 << k) - 1;
        }

        int verdict(int p, int k) {
            int more = lead(p, leftOf(k));
            if (Math.abs(more) <= slip) {
                return JUST;
            }
            return more > 0 ? LEFT_MORE : RIGHT_MORE;
        }

        int justTo(int k) {
            int people = 0;
            for (int p = 0; p < peopleCount; p++) {
                if (verdict(p, k) == JUST) {
                    people |= 1 << p;
                }
            }
            return people;
        }

        /** To how many each CUT is JUST, summed. One pass a PERSON, since drift() asks it up to 60 times a call. */
        int justInAll() {
            int sum = 0;
            for (int p = 0; p < peopleCount; p++) {
                int more = -worthOf(p, allCells());
                for (int k = 1; k < cellCount; k++) {
                    more += 2 * worthOfCell(p, k - 1);
                    if (Math.abs(more) <= slip) {
                        sum++;
                    }
                }
            }
            return sum;
        }

        boolean isAsSeen() {
            for (int i = 0; i < seenCount; i++) {
                // A split or a join may have moved the last CUT since.
                if (!isCut(seenCut[i]) || verdict(seenBy[i], seenCut[i]) != seenFound[i]) {
                    return false;
                }
            }
            return true;
        }
    }

    /** Where people cut, and what they take. */
    private static final class Cutter {

        static int honestCut(Thing thing, int p) {
            int best = 1;
            int least = Math.abs(thing.lead(p, thing.leftOf(1)));
            for (int k = 2; k < thing.cellCount; k++) {
                int more = Math.abs(thing.lead(p, thing.leftOf(k)));
                if (more < least) {
                    best = k;
                    least = more;
                }
            }
            return best;
        }

        /** The CELLS that somebody takes who CHOOSES. */
        static int choice(Thing thing, int q, int k) {
            int left = thing.leftOf(k);
            return thing.lead(q, left) >= 0 ? left : thing.allCells() & ~left;
        }

        /** What is left by another one who CHOOSES, as it is worth to the one who cut. */
        static int leftOver(Thing thing, int p, int q, int k) {
            return thing.worthOf(p, thing.allCells() & ~choice(thing, q, k));
        }

        static int slyCut(Thing thing, int p, int q) {
            int best = 1;
            int most = leftOver(thing, p, q, 1);
            for (int k = 2; k < thing.cellCount; k++) {
                int gets = leftOver(thing, p, q, k);
                if (gets > most) {
                    best = k;
                    most = gets;
                }
            }
            return best;
        }

        static int cutsOf(Thing thing, int cells) {
            int neighbours = (1 << (thing.cellCount - 1)) - 1;
            return Integer.bitCount((cells ^ (cells >> 1)) & neighbours);
        }

        static int fewestCuts(Thing thing, int people) {
            int best = NONE;
            int fewest = MOST_CELLS;
            for (int cells = 0; cells <= thing.allCells(); cells++) {
                int cuts = cutsOf(thing, cells);
                if (cuts < fewest && isJustToAll(thing, people, cells)) {
                    best = cells;
                    fewest = cuts;
                }
            }
            return best;
        }

        private static boolean isJustToAll(Thing thing, int people, int cells) {
            for (int p = 0; p < thing.peopleCount; p++) {
                if ((people >> p & 1) == 1 && Math.abs(thing.lead(p, cells)) > thing.slip) {
                    return false;
                }
            }
            return true;
        }
    }

    /** ORDERS of the HALVES, counted by sets of HALVES that stand ahead, so that none is written out. */
    private static final class Ranks {

        final int[] ahead = new int[MOST_HALVES];
        final int[] ways = new int[1 << MOST_HALVES];
        int size;

        void learn(Thing thing) {
            size = thing.halfCount;
            for (int h = 0; h < MOST_HALVES; h++) {
                ahead[h] = 0;
            }
            for (int i = 0; i < thing.pairCount; i++) {
                ahead[thing.heavy[i]] |= 1 << thing.light[i];
            }
        }

        int howMany() {
            int all = (1 << size) - 1;
            ways[0] = 1;
            for (int placed = 1; placed <= all; placed++) {
                int sum = 0;
                for (int h = 0; h < size; h++) {
                    int others = placed & ~(1 << h);
                    if (others != placed && mayCome(h, others)) {
                        sum += ways[others];
                    }
                }
                ways[placed] = sum;
            }
            return ways[all];
        }

        int howManyWith(int a, int b) {
            int was = ahead[b];
            ahead[b] = was | 1 << a;
            int many = howMany();
            ahead[b] = was;
            return many;
        }

        int lightest() {
            int found = 0;
            for (int h = 0; h < size; h++) {
                if (ahead[h] == 0) {
                    found |= 1 << h;
                }
            }
            return found;
        }

        int heaviest() {
            int found = (1 << size) - 1;
            for (int h = 0; h < size; h++) {
                found &= ~ahead[h];
            }
            return found;
        }

        int ofFirst(int i) {
            int placed = 0;
            int latest = NONE;
            for (int j = 0; j <= i; j++) {
                latest = leastBehind(placed);
                if (latest == NONE) {
                    return NONE;
                }
                placed |= 1 << latest;
            }
            return latest;
        }

        private int leastBehind(int placed) {
            for (int h = 0; h < size; h++) {
                if ((placed >> h & 1) == 0 && mayCome(h, placed)) {
                    return h;
                }
            }
            return NONE;
        }

        private boolean mayCome(int h, int placed) {
            return (ahead[h] & ~placed) == 0;
        }
    }

    /** What PEOPLE who lie by odds tell of a CUT. */
    private static final class Court {

        final long[] tell = new long[MOST_PEOPLE + 1];

        long majority(int v, int justTo, int people, int what) {
            long bottom = 1;
            tell[0] = 1;
            for (int p = 0; p < people; p++) {
                int yes = saysJust(v, justTo, p);
                tell[p + 1] = 0;
                for (int n = p + 1; n > 0; n--) {
                    tell[n] = tell[n] * (10 - yes) + tell[n - 1] * yes;
                }
                tell[0] *= 10 - yes;
                bottom *= 10;
            }
            long top = 0;
            for (int n = people / 2 + 1; n <= people; n++) {
                top += tell[n];
            }
            return lowest(top, bottom, what);
        }

        static long expected(int v, int justTo, int people, int what) {
            long top = 0;
            for (int p = 0; p < people; p++) {
                top += saysJust(v, justTo, p);
            }
            return lowest(top, 10, what);
        }

        private static int saysJust(int v, int justTo, int p) {
            return (justTo >> p & 1) == 1 ? 10 - v : v;
        }

        private static long lowest(long top, long bottom, int what) {
            long common = bottom;
            long rest = top;
            for (int i = 0; i < 100 && rest != 0; i++) {
                long less = common % rest;
                common = rest;
                rest = less;
            }
            if (common == 0) {
                return NONE;
            }
            return what == 0 ? top / common : bottom / common;
        }
    }

    /** THE TAPE, and its TOKENS one at a time, so that none is looked at ahead of its time. */
    private static final class Tape {

        static final int END = 0;
        static final int NAME = 1;
        static final int NUMBER = 2;
        static final int MARK = 3;
        static final int WRONG = 4;

        final int[] bytes = new int[MOST_BYTES];
        int length;
        int kind;
        int start;
        int behind;
        int value;

        void restart() {
            behind = 0;
            advance();
        }

        void advance() {
            start = behind;
            while (start < length && bytes[start] == ' ') {
                start++;
            }
            behind = start;
            value = 0;
            if (start >= length) {
                kind = END;
                return;
            }
            kind = kindOfSign(bytes[start]);
            do {
                behind++;
            } while (isLong() && behind < length && kindOfSign(bytes[behind]) == kind);
            if (kind == NUMBER) {
                measure();
            }
        }

        private void measure() {
            if (behind - start > 2) {
                kind = WRONG;
                return;
            }
            for (int i = start; i < behind; i++) {
                value = value * 10 + bytes[i] - '0';
            }
        }

        boolean isWord(String word) {
            if (word.length() != behind - start) {
                return false;
            }
            for (int i = 0; i < word.length(); i++) {
                if (bytes[start + i] != word.charAt(i)) {
                    return false;
                }
            }
            return true;
        }

        private boolean isLong() {
            return kind == NAME || kind == NUMBER;
        }

        private static int kindOfSign(int c) {
            if (c >= 'a' && c <= 'z') {
                return NAME;
            }
            if (c >= '0' && c <= '9') {
                return NUMBER;
            }
            return c == ';' ? MARK : WRONG;
        }
    }

    /** Reads THE TAPE into a draft, so that what was told before stays, if there is a FAULT. */
    private static final class Teller {

        private static final int NO_TOKEN = 1;
        private static final int MISPLACED = 2;
        private static final int OUT_OF_BOUNDS = 3;
        private static final int SECOND_TIME = 4;
        private static final int TOO_MANY = 5;
        private static final int NO_HALF = 6;
        private static final int NO_ORDER = 7;

        // The lines that make a PERSON have the numbers of their KINDS.
        private static final int THING = 4;
        private static final int SLIP = 5;
        private static final int FINE = 6;
        private static final int CASE = 7;
        private static final int LIGHTER = 8;
        private static final int LINES = 9;

        final Tape tape = new Tape();
        final Thing draft = new Thing();
        private int toldOnce;
        int faultMet;
        int place;

        /** How many lines there are, which counts only if no FAULT was met. */
        int tellAll(Ranks ranks) {
            draft.begin();
            toldOnce = 0;
            faultMet = 0;
            place = 0;
            tape.restart();
            int lines = 0;
            while (lines < MOST_BYTES && faultMet == 0 && tape.kind != Tape.END) {
                takeLine();
                lines++;
            }
            if (faultMet == 0) {
                checkCase(ranks);
            }
            return lines;
        }

        private void takeLine() {
            int line = lineHere();
            checkName(line);
            if (faultMet != 0) {
                return;
            }
            tape.advance();
            switch (line) {
                case THING: takeCells(); break;
                case SLIP: draft.slip = takeNumber(0, MOST_SLIP, NONE); break;
                case FINE: draft.fine = takeNumber(0, MOST_FINE, NONE); break;
                case CASE: draft.halfCount = takeNumber(FEWEST_HALVES, MOST_HALVES, NONE); break;
                case LIGHTER: takePair(); break;
                default: draft.addPerson(line); break;
            }
            takeMark();
        }

        private int lineHere() {
            if (tape.kind != Tape.NAME) {
                return NONE;
            }
            for (int line = 0; line < LINES; line++) {
                if (tape.isWord(wordOf(line))) {
                    return line;
                }
            }
            return NONE;
        }

        private static String wordOf(int line) {
            switch (line) {
                case PLAIN: return "plain";
                case CHILD: return "child";
                case SWEET: return "sweet";
                case DEALER: return "dealer";
                case THING: return "thing";
                case SLIP: return "slip";
                case FINE: return "fine";
                case CASE: return "case";
                default: return "lighter";
            }
        }

        private void checkName(int line) {
            if (line == NONE) {
                blameFor(Tape.NAME);
                blame(MISPLACED);
            } else if (line == LIGHTER) {
                if (draft.pairCount >= MOST_PAIRS) {
                    blame(TOO_MANY);
                }
            } else if (line <= DEALER) {
                if (draft.peopleCount >= MOST_PEOPLE) {
                    blame(TOO_MANY);
                }
            } else if ((toldOnce >> line & 1) == 1) {
                blame(SECOND_TIME);
            } else {
                toldOnce |= 1 << line;
            }
        }

        private void takeCells() {
            draft.cellCount = 0;
            while (draft.cellCount < MOST_CELLS && faultMet == 0
                    && (draft.cellCount < FEWEST_CELLS || tape.kind == Tape.NUMBER)) {
                draft.weights[draft.cellCount] = takeNumber(0, MOST_WEIGHT, NONE);
                draft.cellCount++;
            }
            if (tape.kind == Tape.NUMBER) {
                // Of two FAULTS of one TOKEN the document names the bounds first.
                blame(tape.value > MOST_WEIGHT ? OUT_OF_BOUNDS : TOO_MANY);
            }
        }

        private void takePair() {
            int a = takeNumber(0, MOST_HALVES - 1, NONE);
            int b = takeNumber(0, MOST_HALVES - 1, a);
            draft.addPair(a, b);
        }

        private int takeNumber(int low, int high, int unlike) {
            blameFor(Tape.NUMBER);
            if (!within(tape.value, low, high) || tape.value == unlike) {
                blame(OUT_OF_BOUNDS);
            }
            if (faultMet != 0) {
                return low;
            }
            int taken = tape.value;
            tape.advance();
            return taken;
        }

        private void takeMark() {
            blameFor(Tape.MARK);
            if (faultMet == 0) {
                tape.advance();
            }
        }

        private void checkCase(Ranks ranks) {
            for (int i = 0; i < draft.pairCount; i++) {
                if (!draft.isHalf(draft.light[i]) || !draft.isHalf(draft.heavy[i])) {
                    blame(NO_HALF);
                }
            }
            ranks.learn(draft);
            if (ranks.howMany() == 0) {
                blame(NO_ORDER);
            }
        }

        /** Blames the TOKEN, if it is not of the kind that is due. */
        private void blameFor(int due) {
            if (tape.kind == Tape.WRONG) {
                blame(NO_TOKEN);
            } else if (tape.kind != due) {
                blame(MISPLACED);
            }
        }

        /** Keeps the first FAULT alone: what is met behind it is not read any more. */
        private void blame(int found) {
            if (faultMet == 0) {
                faultMet = found;
                place = tape.start;
            }
        }
    }

    /** A row of a lane. Its values are cut to the lane's bits as they are laid, so one row of ints serves all lanes. */
    private static final class Sheet {

        static final int MOST = 40;
        static final int NULL = 1;
        static final int INDEX = 2;
        static final int CAST = 3;
        static final int SIZE = 4;

        private static final int NOTHING = -1;
        private static final int BYTES = 0;
        private static final int SHORTS = 1;
        private static final int INTS = 2;

        private final int[] row = new int[MOST];
        private int laneOf = NOTHING;
        int size;

        static boolean isLane(int lane) {
            return within(lane, BYTES, INTS);
        }

        boolean isNothing() {
            return laneOf == NOTHING;
        }

        void renew(int lane, int n) {
            laneOf = lane;
            size = n;
            for (int i = 0; i < MOST; i++) {
                row[i] = 0;
            }
        }

        int faultAt(int i) {
            if (isNothing()) {
                return NULL;
            }
            return within(i, 0, size - 1) ? 0 : INDEX;
        }

        int faultOfTwo(int lane, int i) {
            if (!isNothing() && lane != laneOf) {
                return CAST;
            }
            int first = faultAt(i);
            return first != 0 ? first : faultAt(i + 1);
        }

        int at(int i) {
            return within(i, 0, size - 1) ? row[i] : 0;
        }

        void put(int i, int v) {
            if (laneOf == BYTES) {
                row[i] = (byte) v;
            } else if (laneOf == SHORTS) {
                row[i] = (short) v;
            } else {
                row[i] = v;
            }
        }
    }
}
