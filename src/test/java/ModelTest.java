import java.util.Random;

/**
 * Mixed runs of all calls, each answer compared with the Model's, and in the end all that can be seen at once. A run
 * ends anywhere ahead of its 512th call, so that the end of some run is seen behind each call; what an object answers
 * later is free.
 */
public final class ModelTest {

    private static final int RUNS = 16000;
    private static final int MOST_CALLS = 512;
    private static final int STATE_CALLS = 47;
    private static final int TEXT_CALLS = 200;
    private static final int[] ODD = {-1, -2, 10, 12, 40, 41, 64, 99, 100, 128, 255, 1000,
        Integer.MAX_VALUE, Integer.MIN_VALUE, Integer.MAX_VALUE - 1};

    private final Random random;
    private final HalfScales x = new HalfScales();
    private final Model m = new Model();
    private String latest = "";
    private int calls;
    private long got;
    private long want;

    private ModelTest(long seed) {
        random = new Random(seed);
    }

    public static void main(String[] args) {
        for (int run = 0; run < RUNS; run++) {
            if (!new ModelTest(run).isAlike(run)) {
                break;
            }
        }
        Due.finish("ModelTest");
    }

    private boolean isAlike(int run) {
        int last = 1 + random.nextInt(MOST_CALLS - STATE_CALLS);
        while (calls < last) {
            call();
            Due.is("run " + run + ", call " + calls + ": " + latest, got, want);
            if (got != want) {
                return false;
            }
        }
        if (calls + STATE_CALLS > MOST_CALLS) {
            throw new IllegalStateException("more than 512 calls in run " + run);
        }
        return stateIsAlike(run);
    }

    private void told(String call, long program, long model) {
        latest = call;
        calls++;
        got = program;
        want = model;
    }

    private boolean stateIsAlike(int run) {
        boolean alike = x.fault() == m.fault() && x.torn() == m.torn();
        for (int i = 0; i < 9; i++) {
            alike &= x.rule(i) == m.rule(i) && x.cell(i) == m.cell(i) && x.pair(i) == m.pair(i)
                && x.person(i) == m.person(i) && x.count(i) == m.count(i);
        }
        Due.holds("run " + run + ", call " + calls + ": state behind " + latest, alike);
        return alike;
    }

    /** Mostly a number that may be right, seldom one that is far off. */
    private int near(int low, int high) {
        if (random.nextInt(40) == 0) {
            return ODD[random.nextInt(ODD.length)];
        }
        if (random.nextInt(25) == 0) {
            return random.nextBoolean() ? low - 1 : high + 1;
        }
        return low + random.nextInt(high - low + 1);
    }

    private int ofCells() {
        return near(0, m.rule(0) - 1);
    }

    private int ofCuts() {
        return near(1, m.rule(0) - 1);
    }

    private int ofPeople() {
        return near(0, Math.max(0, m.rule(1) - 1));
    }

    private int ofHalves() {
        return near(0, m.rule(5) - 1);
    }

    private void call() {
        boolean isRoomForText = calls + TEXT_CALLS + STATE_CALLS <= MOST_CALLS;
        int which = isRoomForText ? random.nextInt(60) : 4 + random.nextInt(56);
        if (which < 4) {
            text();
        } else if (which < 24) {
            change(which - 4);
        } else if (which < 48) {
            ask(which - 24);
        } else {
            sheets(which - 48);
        }
    }

    private void text() {
        String text = random.nextInt(3) == 0 ? mixed() : written();
        for (int i = 0; i < text.length(); i++) {
            told("feed " + text, x.feed(text.charAt(i)), m.feed(text.charAt(i)));
            if (got != want) {
                return;
            }
        }
        if (random.nextInt(5) == 0) {
            int n = near(0, Math.max(0, m.count(2)));
            told("end(" + n + ") of " + text, x.end(n), m.end(n));
            if (got != want || random.nextBoolean()) {
                return;
            }
        }
        told("text() of " + text, x.text(), m.text());
    }

    private String written() {
        StringBuilder b = new StringBuilder();
        if (random.nextInt(4) != 0) {
            b.append("thing");
            int cells = near(2, 8);
            for (int i = 0; i < cells && i < 10; i++) {
                b.append(' ').append(random.nextInt(40) == 0 ? 10 : random.nextInt(10));
            }
            b.append(';');
        }
        String[] kinds = {"plain;", "child;", "sweet ;", " dealer;"};
        for (int i = random.nextInt(50) == 0 ? 5 : random.nextInt(5); i > 0; i--) {
            b.append(kinds[random.nextInt(4)]);
        }
        if (random.nextBoolean()) {
            b.append("slip ").append(random.nextInt(random.nextInt(5) == 0 ? 12 : 4)).append(';');
        }
        if (random.nextBoolean()) {
            b.append("fine ").append(random.nextInt(100)).append("; ");
        }
        int halves = 2 + random.nextInt(4);
        b.append("case ").append(halves).append(';');
        for (int i = random.nextInt(5); i > 0; i--) {
            int a = random.nextInt(halves);
            int z = random.nextInt(halves);
            boolean any = random.nextInt(8) == 0;
            if (any || a != z) {
                b.append("lighter ").append(any ? a : Math.min(a, z)).append(' ').append(any ? z : Math.max(a, z));
                b.append(';');
            }
        }
        if (random.nextInt(4) == 0 && b.length() > 0) {
            int at = random.nextInt(b.length());
            String signs = "?; 0159azAZ~";
            char c = signs.charAt(random.nextInt(signs.length()));
            switch (random.nextInt(3)) {
                case 0: b.setCharAt(at, c); break;
                case 1: b.insert(at, c); break;
                default: b.deleteCharAt(at); break;
            }
        }
        return b.toString();
    }

    private String mixed() {
        String[] parts = {"thing", "plain", "child", "sweet", "dealer", "slip", "fine", "case", "lighter", ";", ";", ";",
            "0", "1", "2", "3", "4", "5", "9", "10", "99", "100", "x", "?", " "};
        StringBuilder b = new StringBuilder();
        for (int i = random.nextInt(12); i > 0; i--) {
            b.append(parts[random.nextInt(parts.length)]);
            if (random.nextInt(3) != 0) {
                b.append(' ');
            }
        }
        return b.toString();
    }

    private void change(int which) {
        int i = ofCells();
        int p = ofPeople();
        int v = near(0, 9);
        switch (which) {
            case 0: case 1: case 2: case 3:
                told("weigh(" + i + ", " + v + ")", x.weigh(i, v), m.weigh(i, v));
                break;
            case 4: case 5: told("split(" + i + ")", x.split(i), m.split(i)); break;
            case 6: case 7: told("join(" + i + ")", x.join(i), m.join(i)); break;
            case 8: case 9: {
                int kind = near(0, 3);
                told("teach(" + p + ", " + kind + ")", x.teach(p, kind), m.teach(p, kind));
                break;
            }
            case 10: case 11: {
                int what = near(2, 3);
                int to = what == 3 ? near(0, 99) : near(0, 9);
                told("set(" + what + ", " + to + ")", x.set(what, to), m.set(what, to));
                break;
            }
            case 12: told("appeal()", x.appeal(), m.appeal()); break;
            case 13: case 14: {
                int a = ofHalves();
                int b = ofHalves();
                told("lighter(" + a + ", " + b + ")", x.lighter(a, b), m.lighter(a, b));
                break;
            }
            case 15: case 16: {
                int k = ofCuts();
                // Mostly what is so, that not all fits() and kinds() answer 0.
                int found = random.nextInt(4) == 0 ? near(0, 2) : m.finds(p, k);
                told("see(" + p + ", " + k + ", " + found + ")", x.see(p, k, found), m.see(p, k, found));
                break;
            }
            case 17: {
                int n = near(0, m.count(0));
                told("forget(" + n + ")", x.forget(n), m.forget(n));
                break;
            }
            case 18: {
                int k = near(0, 1);
                told("keep(" + k + ")", x.keep(k), m.keep(k));
                break;
            }
            default: {
                int k = near(0, 1);
                told("back(" + k + ")", x.back(k), m.back(k));
                break;
            }
        }
    }

    private void ask(int which) {
        int i = ofCells();
        int p = ofPeople();
        int q = ofPeople();
        int k = ofCuts();
        int v = near(0, 10);
        int what = near(0, 1);
        switch (which) {
            case 0: case 1: {
                int some = near(0, (1 << m.rule(0)) - 1);
                told("worth(" + p + ", " + some + ")", x.worth(p, some), m.worth(p, some));
                break;
            }
            case 2: told("finds(" + p + ", " + k + ")", x.finds(p, k), m.finds(p, k)); break;
            case 3: told("just(" + k + ")", x.just(k), m.just(k)); break;
            case 4: told("middle(" + what + ")", x.middle(what), m.middle(what)); break;
            case 5: told("honest(" + p + ")", x.honest(p), m.honest(p)); break;
            case 6: case 7: {
                int one = near(0, 2);
                told("chosen(" + p + ", " + q + ", " + one + ")", x.chosen(p, q, one), m.chosen(p, q, one));
                break;
            }
            case 8: case 9:
                told("sly(" + p + ", " + q + ", " + what + ")", x.sly(p, q, what), m.sly(p, q, what));
                break;
            case 10: case 11: {
                int some = near(0, (1 << m.rule(1)) - 1);
                told("halves(" + some + ", " + what + ")", x.halves(some, what), m.halves(some, what));
                break;
            }
            case 12: {
                int cost = random.nextBoolean() ? near(0, 99) : near(0, 12);
                told("stop(" + cost + ", " + what + ")", x.stop(cost, what), m.stop(cost, what));
                break;
            }
            case 13: case 14: {
                int one = random.nextBoolean() ? near(0, 2) : near(10, 9 + m.rule(5));
                told("orders(" + one + ")", x.orders(one), m.orders(one));
                break;
            }
            case 15: told("next(" + what + ")", x.next(what), m.next(what)); break;
            case 16: case 17:
                told("luck(" + v + ", " + k + ", " + what + ")", x.luck(v, k, what), m.luck(v, k, what));
                break;
            case 18: told("mean(" + v + ", " + k + ", " + what + ")", x.mean(v, k, what), m.mean(v, k, what)); break;
            case 19: case 20: told("fits(" + i + ")", x.fits(i), m.fits(i)); break;
            case 21: told("kinds(" + p + ")", x.kinds(p), m.kinds(p)); break;
            default: {
                int seed = random.nextInt();
                int n = near(1, 60);
                told("drift(" + seed + ", " + n + ", " + what + ")", x.drift(seed, n, what), m.drift(seed, n, what));
                break;
            }
        }
    }

    private void sheets(int which) {
        int k = near(0, 3);
        int lane = random.nextInt(4) == 0 ? near(0, 2) : Math.floorMod(k, 3);
        if (which < 2) {
            int n = random.nextInt(4) == 0 ? near(0, 40) : near(0, 8);
            told("sheet(" + k + ", " + lane + ", " + n + ")", x.sheet(k, lane, n), m.sheet(k, lane, n));
        } else if (which < 8) {
            int i = near(0, 8);
            int v = random.nextInt(6) == 0 ? random.nextInt() : near(0, 3) + 256 * random.nextInt(2);
            told("lay(" + k + ", " + i + ", " + v + ")", x.lay(k, i, v), m.lay(k, i, v));
        } else {
            int f = near(0, 6);
            int n = random.nextInt(4) == 0 ? near(0, 20) : near(0, 4);
            String call = "read(" + k + ", " + lane + ", " + f + ", " + n + ")";
            told(call, x.read(k, lane, f, n), m.read(k, lane, f, n));
        }
    }
}
