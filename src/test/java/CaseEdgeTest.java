import java.math.BigInteger;

/** The boundary cases of promises 26 to 34: the case, a court, what was found, weights by a seed. */
public final class CaseEdgeTest {

    private static final int MIN = Edge.MIN;
    private static final int MAX = Edge.MAX;
    private static final String FOUR = "plain;child;sweet;dealer;";
    private static final Run NOTHING = Run.of("thing 0 0 0;" + FOUR);
    private static final Run EIGHT = Run.of("thing 1 1 1 1 1 1 1 1;" + FOUR);
    private static final Run CHAIN = Run.of("case 5;lighter 4 3;lighter 3 2;lighter 2 1;lighter 1 0;");

    public static void main(String[] args) {
        promise26OrdersOfEachCase();
        promise26OrdersOfOne();
        promise26OrdersRefused();
        promise27Next();
        promise27NextNone();
        promise28LuckOdds();
        promise28LuckOfHalf();
        promise28LuckRefused();
        promise29MeanOdds();
        promise29MeanRefused();
        promise30See();
        promise30SeeFull();
        promise30SeeRefused();
        promise31Forget();
        promise31ForgetRefused();
        promise32FitsEnds();
        promise32FitsBeyond();
        promise33Kinds();
        promise33KindsBeyond();
        promise34DriftSeeds();
        promise34DriftTimes();
        promise34DriftRefused();
        Due.finish("CaseEdgeTest");
    }

    // ---- 26

    private static void promise26OrdersOfEachCase() {
        int[] many = {2, 6, 24, 120};
        for (int halves = 2; halves <= 5; halves++) {
            Run made = Run.of("case " + halves + ";");
            Edge.still("all ORDERS", made, many[halves - 2], "orders", 0);
            Edge.still("each may be the lightest", made, (1 << halves) - 1, "orders", 1);
            Edge.still("each may be the heaviest", made, (1 << halves) - 1, "orders", 2);
            for (int i = 0; i < halves; i++) {
                Edge.still("the first ORDER", made, i, "orders", 10 + i);
            }
            Edge.bad(made, "orders", 0, Edge.row(0), -1, 3, 9, 10 + halves, 15, MIN, MAX);
        }
        Edge.still("2 at first", Edge.NEW, 2, "orders", 0);
    }

    private static void promise26OrdersOfOne() {
        Edge.still("one ORDER", CHAIN, 1, "orders", 0);
        Edge.still("its lightest", CHAIN, 16, "orders", 1);
        Edge.still("its heaviest", CHAIN, 1, "orders", 2);
        for (int i = 0; i < 5; i++) {
            Edge.still("by which it is", CHAIN, 4 - i, "orders", 10 + i);
        }
        Edge.still("the same told again", CHAIN.then("lighter", 4, 0), 1, "orders", 0);
        // 4 is behind all others: of 24 ORDERS the first.
        Run last = Run.of("case 5;lighter 0 4;lighter 1 4;lighter 2 4;lighter 3 4;");
        Edge.still("one behind all", last, 24, "orders", 0);
        Edge.still("it is never the lightest", last, 15, "orders", 1);
        Edge.still("it is always the heaviest", last, 16, "orders", 2);
        Run first = Run.of("case 5;lighter 4 0;lighter 4 1;lighter 4 2;lighter 4 3;");
        Edge.still("one ahead of all", first, 16, "orders", 1);
        Edge.still("then the least first", first, 0, "orders", 11);
        // 0 and 1 are the first two; of 2, 3 and 4 it is only told that 2 is ahead of 3.
        Edge.still("eight pairs", Edge.ALL, 3, "orders", 0);
    }

    private static void promise26OrdersRefused() {
        for (Run made : new Run[] {Edge.NEW, Edge.SOME, Edge.ALL}) {
            Edge.bad(made, "orders", 0, Edge.row(0), -2, -1, 3, 4, 5, 6, 7, 8, 9, 15, 20, MIN, MIN + 10, MAX);
        }
        Edge.still("no third HALF", Edge.NEW, -1, "orders", 12);
        Edge.still("no 6th HALF", CHAIN, -1, "orders", 15);
    }

    // ---- 27

    private static void promise27Next() {
        Edge.still("the only two", Edge.NEW, 1, "next", 0);
        Edge.still("one is left", Edge.NEW, 1, "next", 1);
        Run five = Run.of("case 5;");
        Edge.still("of all the least", five, 1, "next", 0);
        Edge.still("half of 120", five, 60, "next", 1);
        Run last = Run.of("case 5;lighter 0 1;lighter 1 2;lighter 2 3;lighter 2 4;");
        Edge.still("the last two", last, 34, "next", 0);
        Edge.still("one is left", last, 1, "next", 1);
        // 0 1 2 with 3 anywhere: of 4 ORDERS 1 and 3 alone leave 2 and 2.
        Run best = Run.of("case 4;lighter 0 1;lighter 1 2;");
        Edge.still("not the least, but the best", best, 13, "next", 0);
        Edge.still("two are left", best, 2, "next", 1);
        Edge.bad(Edge.NEW, "next", 0, Edge.row(0), -1, 2, MIN, MAX);
        Edge.bad(Edge.SOME, "next", 0, Edge.row(0), -1, 2, MIN, MAX);
        Edge.bad(Edge.ALL, "next", 0, Edge.row(0), -1, 2, MIN, MAX);
    }

    private static void promise27NextNone() {
        Run one = Edge.NEW.then("lighter", 1, 0);
        for (int what = 0; what < 2; what++) {
            Edge.still("one ORDER of two", one, -4, "next", what);
            Edge.still("one ORDER of five", CHAIN, -4, "next", what);
        }
        // BAD is ahead of NONE.
        Edge.bad(CHAIN, "next", 0, Edge.row(0), -1, 2, MIN, MAX);
        Edge.still("some again behind a text", one.then("text"), 1, "next", 0);
    }

    // ---- 28

    private static void promise28LuckOdds() {
        fraction("luck", "none lies", NOTHING, 0, 1, 1, 1);
        fraction("luck", "all lie", NOTHING, 10, 1, 0, 1);
        fraction("luck", "by half", NOTHING, 5, 1, 5, 16);
        fraction("luck", "by one", NOTHING, 1, 1, 9477, 10000);
        fraction("luck", "by nine", NOTHING, 9, 1, 37, 10000);
        fraction("luck", "nobody", Edge.NEW, 0, 1, 0, 1);
        fraction("luck", "nobody", Edge.NEW, 10, 1, 0, 1);
        fraction("luck", "nobody", Edge.NEW, 5, 1, 0, 1);
        Run one = Run.of("thing 0 0;plain;");
        fraction("luck", "one, who does not lie", one, 0, 1, 1, 1);
        fraction("luck", "one, who lies", one, 10, 1, 0, 1);
        fraction("luck", "one by one", one, 1, 1, 9, 10);
        fraction("luck", "one by two", one, 2, 1, 4, 5);
        Run unjust = Run.of("thing 0 1;plain;");
        fraction("luck", "not JUST, no lie", unjust, 0, 1, 0, 1);
        fraction("luck", "not JUST, a lie", unjust, 10, 1, 1, 1);
        fraction("luck", "the last CUT", EIGHT, 0, 7, 0, 1);
        fraction("luck", "the last CUT, all lie", EIGHT.then("teach", 3, 0), 10, 7, 1, 1);
    }

    private static void promise28LuckOfHalf() {
        fraction("luck", "one of two is not more than half", Run.of("thing 1 1;plain;child;"), 0, 1, 0, 1);
        fraction("luck", "one of two, the contrary", Run.of("thing 1 1;plain;child;"), 10, 1, 0, 1);
        fraction("luck", "one of two by half", Run.of("thing 1 1;plain;child;"), 5, 1, 1, 4);
        fraction("luck", "two of two are", Run.of("thing 1 1;plain;plain;"), 0, 1, 1, 1);
        fraction("luck", "one of three is not", Run.of("thing 1 1;plain;child;child;"), 0, 1, 0, 1);
        fraction("luck", "two of three are", Run.of("thing 1 1;plain;child;plain;"), 0, 1, 1, 1);
        fraction("luck", "two of four are not", Run.of("thing 1 1;plain;child;plain;child;"), 0, 1, 0, 1);
        fraction("luck", "two of four, the contrary", Run.of("thing 1 1;plain;child;plain;child;"), 10, 1, 0, 1);
        fraction("luck", "three of four are", Run.of("thing 1 1;plain;child;plain;plain;"), 0, 1, 1, 1);
        fraction("luck", "three of four by half", Run.of("thing 1 1;plain;child;plain;plain;"), 5, 1, 5, 16);
    }

    private static void promise28LuckRefused() {
        court("luck");
    }

    // ---- 29

    private static void promise29MeanOdds() {
        fraction("mean", "none lies", NOTHING, 0, 1, 4, 1);
        fraction("mean", "all lie", NOTHING, 10, 1, 0, 1);
        fraction("mean", "by half", NOTHING, 5, 1, 2, 1);
        fraction("mean", "by one", NOTHING, 1, 1, 18, 5);
        fraction("mean", "nobody", Edge.NEW, 0, 1, 0, 1);
        fraction("mean", "nobody", Edge.NEW, 10, 1, 0, 1);
        fraction("mean", "one, JUST", Run.of("plain;"), 3, 1, 7, 10);
        fraction("mean", "one, not JUST", Run.of("child;"), 3, 1, 3, 10);
        fraction("mean", "one, in lowest terms", Run.of("child;"), 2, 1, 1, 5);
        fraction("mean", "two of four, no lie", Run.of("thing 3 3;" + FOUR), 0, 1, 2, 1);
        fraction("mean", "two of four, all lie", Run.of("thing 3 3;" + FOUR), 10, 1, 2, 1);
        fraction("mean", "the last CUT", EIGHT, 0, 7, 1, 1);
        fraction("mean", "the last CUT, all lie", EIGHT.then("teach", 3, 0), 10, 7, 4, 1);
    }

    private static void promise29MeanRefused() {
        court("mean");
    }

    private static void court(String call) {
        Run[] made = {Edge.NEW, Edge.SOME, Edge.ALL};
        int[] cuts = {1, 4, 7};
        for (int i = 0; i < made.length; i++) {
            for (int what = 0; what < 2; what++) {
                Edge.good(made[i], call, 0, Edge.row(0, 1, what), 0, 10);
                Edge.good(made[i], call, 1, Edge.row(0, 1, what), 1, cuts[i]);
                Edge.bad(made[i], call, 0, Edge.row(0, 1, what), -1, 11, MIN, MAX);
                Edge.bad(made[i], call, 1, Edge.row(0, 1, what), -1, 0, cuts[i] + 1, MIN, MAX);
            }
            Edge.bad(made[i], call, 2, Edge.row(0, 1, 0), -1, 2, MIN, MAX);
        }
        Edge.still("all beyond", Edge.NEW, -1, call, 11, 2, 2);
    }

    // ---- 30

    private static void promise30See() {
        for (int found = 0; found < 3; found++) {
            Edge.is("each that may be found", EIGHT, 1, "see", 0, 1, found);
            Edge.is("by the last, of the last CUT", EIGHT, 1, "see", 3, 7, found);
        }
        Edge.is("the same for a second time", EIGHT.then("see", 0, 1, 0), 2, "see", 0, 1, 0);
        Edge.is("the contrary of it", EIGHT.then("see", 0, 1, 0), 2, "see", 0, 1, 1);
        Edge.is("what is not so", NOTHING, 1, "see", 0, 1, 2);
        Edge.is("how many are", EIGHT.then("see", 0, 1, 0), 1, "count", 0);
    }

    private static void promise30SeeFull() {
        Run five = seen(EIGHT, 5);
        Edge.is("the 6th", five, 6, "see", 3, 7, 2);
        Run six = five.then("see", 3, 7, 2);
        Edge.still("the 7th", six, -3, "see", 0, 1, 0);
        Edge.still("the 7th, the same", six, -3, "see", 3, 7, 2);
        // BAD is ahead of FULL.
        Edge.bad(six, "see", 0, Edge.row(0, 1, 0), -1, 4, MIN, MAX);
        Edge.bad(six, "see", 1, Edge.row(0, 1, 0), -1, 0, 8, MIN, MAX);
        Edge.bad(six, "see", 2, Edge.row(0, 1, 0), -1, 3, MIN, MAX);
        Edge.is("room again behind forget(5)", six.then("forget", 5), 6, "see", 0, 1, 0);
        Edge.is("room again behind a text", six.told("plain;"), 1, "see", 0, 1, 0);
        Edge.is("room again behind back()", seen(EIGHT.then("keep", 0), 6).then("back", 0), 1, "see", 0, 1, 0);
        Edge.still("full again behind back()", six.then("keep", 0).then("forget", 0).then("back", 0), -3, "see", 0, 1, 0);
    }

    private static void promise30SeeRefused() {
        Edge.bad(Edge.NEW, "see", 0, Edge.row(0, 1, 0), -1, 0, 1, MIN, MAX);
        Run two = Run.of("plain;");
        Edge.bad(two, "see", 0, Edge.row(0, 1, 0), -1, 1, MIN, MAX);
        Edge.bad(two, "see", 1, Edge.row(0, 1, 0), -1, 0, 2, MIN, MAX);
        Edge.bad(two, "see", 2, Edge.row(0, 1, 0), -1, 3, MIN, MAX);
        Edge.bad(Edge.SOME, "see", 0, Edge.row(0, 1, 0), -1, 4, MIN, MAX);
        Edge.bad(Edge.SOME, "see", 1, Edge.row(0, 1, 0), -1, 0, 5, MIN, MAX);
        Edge.bad(Edge.SOME, "see", 2, Edge.row(0, 1, 0), -1, 3, MIN, MAX);
        Edge.still("a CUT that was joined", EIGHT.then("join", 0), -1, "see", 0, 7, 0);
        Edge.is("a CUT that was split", two.then("split", 0), 1, "see", 0, 2, 0);
    }

    // ---- 31

    private static void promise31Forget() {
        Edge.still("nothing was SEEN", Edge.NEW, 0, "forget", 0);
        Run six = seen(EIGHT, 6);
        Edge.still("all six stay", six, 6, "forget", 6);
        Edge.is("the last is forgotten", six, 6, "forget", 5);
        Edge.is("all are forgotten", six, 6, "forget", 0);
        Edge.is("five are left", six.then("forget", 5), 5, "count", 0);
        Edge.is("none is left", six.then("forget", 0), 0, "count", 0);
        // LEFT more is SEEN first, then RIGHT more: the first one alone leaves 2 to 9.
        Run two = Run.of("thing 1 1;plain;").then("see", 0, 1, 1).then("see", 0, 1, 2);
        Edge.still("both can not be", two, 0, "fits", 0);
        Edge.still("the first is left", two.then("forget", 1), 1020, "fits", 0);
        Edge.still("none is left", two.then("forget", 0), 1023, "fits", 0);
        Edge.still("forgotten ones do not come back", two.then("forget", 0).then("see", 0, 1, 2), 1, "fits", 0);
    }

    private static void promise31ForgetRefused() {
        Edge.bad(Edge.NEW, "forget", 0, Edge.row(0), -1, 1, 6, MIN, MAX);
        Edge.bad(seen(EIGHT, 1), "forget", 0, Edge.row(0), -1, 2, MIN, MAX);
        Edge.bad(seen(EIGHT, 6), "forget", 0, Edge.row(0), -1, 7, MIN, MAX);
        Edge.bad(Edge.SOME, "forget", 0, Edge.row(0), -1, 4, MIN, MAX);
        Edge.bad(Edge.ALL, "forget", 0, Edge.row(0), -1, 7, MIN, MAX);
        Edge.still("those forgotten are not there", seen(EIGHT, 6).then("forget", 5), -1, "forget", 6);
    }

    // ---- 32

    private static void promise32FitsEnds() {
        for (int i = 0; i < 8; i++) {
            Edge.still("nothing is SEEN", EIGHT, 1023, "fits", i);
        }
        Edge.still("nothing is SEEN by nobody", Edge.NEW, 1023, "fits", 1);
        Edge.still("0 alone", Run.of("thing 0 0;plain;").then("see", 0, 1, 0), 1, "fits", 0);
        Edge.still("0 alone, the last CELL", Run.of("thing 0 0;plain;").then("see", 0, 1, 0), 1, "fits", 1);
        Edge.still("9 alone", Run.of("thing 9 9;plain;").then("see", 0, 1, 0), 512, "fits", 0);
        Edge.still("all but 9", Run.of("thing 9 9;plain;").then("see", 0, 1, 2), 511, "fits", 0);
        Edge.still("all but 0", Run.of("thing 0 0;plain;").then("see", 0, 1, 1), 1022, "fits", 0);
        Edge.still("none", Run.of("thing 9 9;plain;").then("see", 0, 1, 1), 0, "fits", 0);
        // The child finds twice w and 2 JUST by 1 alone, the last one, a dealer, by 2 and 3.
        Run four = Run.of("thing 1 2;plain;child;sweet;dealer;");
        Edge.still("SEEN by the second PERSON", four.then("see", 1, 1, 0), 2, "fits", 0);
        Edge.still("SEEN by the last PERSON", four.then("see", 3, 1, 0), 12, "fits", 0);
        Run slip = Run.of("thing 0 9;plain;slip 9;").then("see", 0, 1, 0);
        Edge.still("by SLIP all", slip, 1023, "fits", 0);
        Edge.still("by SLIP as it is now", slip.then("set", 2, 0), 512, "fits", 0);
        Edge.still("by SLIP 8 not 0", slip.then("set", 2, 8), 1022, "fits", 0);
        // The sixth of six can not be.
        Run six = Run.of("thing 1 1;plain;").then("see", 0, 1, 0).then("see", 0, 1, 0).then("see", 0, 1, 0)
            .then("see", 0, 1, 0).then("see", 0, 1, 0).then("see", 0, 1, 1);
        Edge.still("all six count", six, 0, "fits", 0);
        Edge.still("all five count", six.then("forget", 5), 2, "fits", 0);
        Edge.bad(Edge.NEW, "fits", 0, Edge.row(0), -1, 2, MIN, MAX);
        Edge.bad(Edge.SOME, "fits", 0, Edge.row(0), -1, 5, MIN, MAX);
        Edge.bad(Edge.ALL, "fits", 0, Edge.row(0), -1, 8, MIN, MAX);
    }

    private static void promise32FitsBeyond() {
        Run last = Run.of("thing 0 0 0;plain;").then("see", 0, 2, 0);
        Edge.still("the last CUT", last, 1, "fits", 0);
        Run beyond = last.then("join", 0);
        for (int i = 0; i < 2; i++) {
            Edge.still("beyond the last one", beyond, 0, "fits", i);
        }
        Edge.still("there is no such CELL then", beyond, -1, "fits", 2);
        Edge.still("there again", beyond.then("split", 0), 1, "fits", 2);
        Edge.still("forgotten", beyond.then("forget", 0), 1023, "fits", 0);
        Edge.still("another that is there does not help", last.then("see", 0, 1, 0).then("join", 0), 0, "fits", 0);
        Edge.still("an earlier one that is there", Run.of("thing 0 0 0;plain;").then("see", 0, 1, 0).then("join", 0), 1,
            "fits", 0);
    }

    // ---- 33

    private static void promise33Kinds() {
        for (int p = 0; p < 4; p++) {
            Edge.still("nothing is SEEN", EIGHT, 15, "kinds", p);
        }
        // plain 1:1, child 2:1, sweet 3:2, dealer 0:0
        Run one = Run.of("thing 1 1;plain;");
        Edge.still("the first KIND and the last", one.then("see", 0, 1, 0), 9, "kinds", 0);
        Edge.still("those between", one.then("see", 0, 1, 1), 6, "kinds", 0);
        Edge.still("none", one.then("see", 0, 1, 2), 0, "kinds", 0);
        Edge.still("SLIP 1: all", one.then("see", 0, 1, 0).then("set", 2, 1), 15, "kinds", 0);
        Run two = Run.of("thing 1 1;plain;child;");
        Edge.still("of somebody who found nothing", two.then("see", 0, 1, 0), 15, "kinds", 1);
        Edge.still("of him alone who found it", two.then("see", 1, 1, 1), 6, "kinds", 1);
        Edge.still("of the other one", two.then("see", 1, 1, 1), 15, "kinds", 0);
        Edge.still("of him, though others can not be", two.then("see", 0, 1, 2), 0, "kinds", 1);
        Edge.bad(Edge.NEW, "kinds", 0, Edge.row(0), -1, 0, 1, MIN, MAX);
        Edge.bad(one, "kinds", 0, Edge.row(0), -1, 1, MIN, MAX);
        Edge.bad(Edge.SOME, "kinds", 0, Edge.row(0), -1, 4, MIN, MAX);
        Edge.bad(Edge.ALL, "kinds", 0, Edge.row(0), -1, 4, MIN, MAX);
    }

    private static void promise33KindsBeyond() {
        Run last = Run.of("thing 0 0 0;plain;child;").then("see", 0, 2, 0);
        Edge.still("the last CUT", last, 15, "kinds", 0);
        Run beyond = last.then("join", 0);
        Edge.still("beyond the last one", beyond, 0, "kinds", 0);
        Edge.still("beyond the last one, of another", beyond, 0, "kinds", 1);
        Edge.still("there again", beyond.then("split", 0), 15, "kinds", 0);
        Edge.still("forgotten", beyond.then("forget", 0), 15, "kinds", 0);
    }

    // ---- 34

    /** Got by hand: 12345 has no bits 16 to 30; 1103527590 has 16838; -1103502900 has 15929. */
    private static void promise34DriftSeeds() {
        Edge.still("seed 0: CELL 0 is 0", Edge.NEW, 1, "drift", 0, 1, 1);
        Edge.still("seed 1: CELL 0 is 4", Edge.NEW, 5, "drift", 1, 1, 1);
        Edge.still("seed -1: CELL 1 is 1", Edge.NEW, 2, "drift", -1, 1, 1);
        Edge.still("the least seed is as 0 but for bit 31", Edge.NEW, 1, "drift", MIN, 1, 1);
        Edge.still("the greatest seed is as -1 but for bit 31", Edge.NEW, 2, "drift", MAX, 1, 1);
        // 16838 modulo 8 is 6, 15929 modulo 8 is 1.
        Run nines = Run.of("thing 9 9 9 9 9 9 9 9;plain;");
        Edge.still("of 8 CELLS: CELL 0 is 0", nines, 63, "drift", 0, 1, 1);
        Edge.still("of 8 CELLS: CELL 6 is 4", nines, 67, "drift", 1, 1, 1);
        Edge.still("of 8 CELLS: CELL 1 is 1", nines, 64, "drift", -1, 1, 1);
        // 36 to 31 by CUT 4 then.
        Edge.still("no CUT is JUST then", nines, 0, "drift", 1, 1, 0);
        Edge.still("one is by SLIP 5", nines.then("set", 2, 5), 1, "drift", 1, 1, 0);
        Edge.still("none is by SLIP 4", nines.then("set", 2, 4), 0, "drift", 1, 1, 0);
    }

    private static void promise34DriftTimes() {
        Run two = Run.of("thing 1 1;plain;slip 9;");
        for (int seed : new int[] {0, 1, -1, MIN, MAX}) {
            Edge.still("once", two, 1, "drift", seed, 1, 0);
            Edge.still("60 times", two, 60, "drift", seed, 60, 0);
            Edge.still("nobody", Edge.NEW, 0, "drift", seed, 60, 0);
            for (int n : new int[] {1, 2, 59, 60}) {
                Run made = Run.of("thing 9 1 8 2 7 3 6 4;" + FOUR + "slip 3;");
                int[] want = drifted(made, seed, n);
                Edge.still("as by weigh() and just()", made, want[0], "drift", seed, n, 0);
                Edge.still("as by weigh()", made, want[1], "drift", seed, n, 1);
            }
        }
        Run four = Run.of("thing 1 1;dealer;dealer;dealer;dealer;slip 9;");
        Edge.still("60 times to four", four, 240, "drift", 7, 60, 0);
    }

    /** The seed with all its bits, not an int that wraps around; of the model, which has no bound of 512 calls. */
    private static int[] drifted(Run made, int seed, int n) {
        Model x = made.model();
        BigInteger at = BigInteger.valueOf(seed);
        int sum = 0;
        for (int i = 0; i < n; i++) {
            at = at.multiply(BigInteger.valueOf(1103515245)).add(BigInteger.valueOf(12345));
            int got = 0;
            for (int bit = 30; bit >= 16; bit--) {
                got = 2 * got + (at.testBit(bit) ? 1 : 0);
            }
            x.weigh(got % 8, got / 8 % 10);
            for (int k = 1; k < 8; k++) {
                sum += Integer.bitCount(x.just(k));
            }
        }
        return new int[] {sum, x.rule(7)};
    }

    private static void promise34DriftRefused() {
        for (Run made : new Run[] {Edge.NEW, Edge.SOME, Edge.ALL}) {
            for (int seed : new int[] {0, MIN, MAX}) {
                Edge.bad(made, "drift", 1, Edge.row(seed, 1, 0), -1, 0, 61, MIN, MAX);
                Edge.bad(made, "drift", 2, Edge.row(seed, 1, 0), -1, 2, MIN, MAX);
                Edge.good(made, "drift", 1, Edge.row(seed, 1, 0), 1, 60);
            }
        }
        Edge.still("both beyond", Edge.NEW, -1, "drift", 0, 0, 2);
    }

    private static Run seen(Run made, int times) {
        Run longer = made;
        for (int i = 0; i < times; i++) {
            longer = longer.then("see", i % 4, 1 + i, i % 3);
        }
        return longer;
    }

    private static void fraction(String call, String name, Run made, int v, int k, int top, int bottom) {
        Edge.still(name, made, top, call, v, k, 0);
        Edge.still(name, made, bottom, call, v, k, 1);
    }
}
