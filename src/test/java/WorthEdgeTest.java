/** The boundary cases of promises 17 to 25: what it is worth, where it is cut, fines. */
public final class WorthEdgeTest {

    private static final int MIN = Edge.MIN;
    private static final int MAX = Edge.MAX;
    private static final String FOUR = "plain;child;sweet;dealer;";
    private static final Run NOTHING = Run.of("thing 0 0 0;" + FOUR);
    private static final Run NINES = Run.of("thing 9 9 9 9 9 9 9 9;" + FOUR);

    public static void main(String[] args) {
        promise17WorthOfEachWeight();
        promise17WorthSets();
        promise17WorthRefused();
        promise18FindsBySlip();
        promise18FindsCuts();
        promise19Just();
        promise20Middle();
        promise20MiddleOfNobody();
        promise21Honest();
        promise22Chosen();
        promise22ChosenRefused();
        promise23Sly();
        promise23SlyRefused();
        promise24HalvesPeople();
        promise24HalvesCuts();
        promise24HalvesSlip();
        promise25Stop();
        promise25StopRefused();
        Due.finish("WorthEdgeTest");
    }

    // ---- 17

    private static void promise17WorthOfEachWeight() {
        int[][] first = {{0, 1, 2, 3, 4, 5, 6, 7, 8, 9}, {0, 2, 4, 6, 8, 10, 12, 14, 16, 18},
            {0, 3, 4, 7, 8, 11, 12, 15, 16, 19}, {0, 0, 1, 1, 2, 2, 3, 3, 4, 4}};
        int[][] other = {{0, 1, 2, 3, 4, 5, 6, 7, 8, 9}, {0, 1, 2, 3, 4, 5, 6, 7, 8, 9},
            {0, 2, 2, 4, 4, 6, 6, 8, 8, 10}, {0, 0, 1, 1, 2, 2, 3, 3, 4, 4}};
        for (int v = 0; v < 10; v++) {
            Run made = Run.of("thing " + v + " " + v + " " + v + ";" + FOUR);
            for (int kind = 0; kind < 4; kind++) {
                Edge.still("CELL 0 of " + v, made, first[kind][v], "worth", kind, 1);
                Edge.still("CELL 1 of " + v, made, other[kind][v], "worth", kind, 2);
                Edge.still("the last CELL of " + v, made, other[kind][v], "worth", kind, 4);
            }
        }
    }

    private static void promise17WorthSets() {
        int[] all = {72, 81, 89, 32};
        for (int p = 0; p < 4; p++) {
            Edge.still("no CELL", NINES, 0, "worth", p, 0);
            Edge.still("all CELLS", NINES, all[p], "worth", p, 255);
            Edge.still("all, worth nothing", NOTHING, 0, "worth", p, 7);
            Edge.still("the last one alone", NINES, new int[] {9, 9, 10, 4}[p], "worth", p, 128);
        }
        Run made = Run.of("thing 1 8;child;");
        Edge.still("CELL 0", made, 2, "worth", 0, 1);
        Edge.still("joined, CELL 0 is twice as much", Run.of("thing 1 8 0;child;").then("join", 0), 18, "worth", 0, 1);
        Edge.still("split, only its first half is", made.then("weigh", 0, 9).then("split", 0), 10 + 4 + 8, "worth", 0, 7);
    }

    private static void promise17WorthRefused() {
        Edge.bad(Edge.NEW, "worth", 0, Edge.row(0, 1), -1, 0, 1, MIN, MAX);
        Run two = Run.of("plain;");
        Edge.still("all of 2", two, 2, "worth", 0, 3);
        Edge.bad(two, "worth", 1, Edge.row(0, 1), -1, 4, 5, 256, MIN, MAX);
        Edge.bad(two, "worth", 0, Edge.row(0, 1), -1, 1, MIN, MAX);
        Edge.bad(NINES, "worth", 1, Edge.row(0, 1), -1, 256, 257, MIN, MAX);
        Edge.bad(NINES, "worth", 0, Edge.row(0, 255), -1, 4, MIN, MAX);
        Edge.bad(Edge.SOME, "worth", 1, Edge.row(3, 1), -1, 32, 33, MIN, MAX);
        Edge.still("a CELL that was joined", Run.of("thing 1 1 1;plain;").then("join", 0), -1, "worth", 0, 4);
        Edge.still("a CELL that was split", two.then("split", 1), 0, "worth", 0, 4);
    }

    // ---- 18

    private static void promise18FindsBySlip() {
        for (int slip = 0; slip < 9; slip++) {
            String people = "plain;slip " + slip + ";";
            Edge.still("alike", Run.of("thing 4 4;" + people), 0, "finds", 0, 1);
            Edge.still("LEFT just SLIP more", Run.of("thing " + slip + " 0;" + people), 0, "finds", 0, 1);
            Edge.still("LEFT 1 more than SLIP", Run.of("thing " + (slip + 1) + " 0;" + people), 1, "finds", 0, 1);
            Edge.still("RIGHT just SLIP more", Run.of("thing 0 " + slip + ";" + people), 0, "finds", 0, 1);
            Edge.still("RIGHT 1 more than SLIP", Run.of("thing 0 " + (slip + 1) + ";" + people), 2, "finds", 0, 1);
        }
        Run nine = Run.of("thing 9 1 0;plain;slip 9;");
        Edge.still("LEFT 8 more", nine, 0, "finds", 0, 1);
        Edge.still("LEFT 9 more", nine.then("weigh", 1, 0), 0, "finds", 0, 2);
        Edge.still("LEFT 10 more", nine, 1, "finds", 0, 2);
        Run right = Run.of("thing 0 1 9;plain;slip 9;");
        Edge.still("RIGHT 10 more", right, 2, "finds", 0, 1);
        Edge.still("RIGHT 8 more", right, 0, "finds", 0, 2);
        for (int p = 0; p < 4; p++) {
            Edge.still("worth nothing", NOTHING, 0, "finds", p, 1);
            Edge.still("LEFT least", NINES, 2, "finds", p, 1);
            Edge.still("LEFT most", NINES, 1, "finds", p, 7);
        }
    }

    private static void promise18FindsCuts() {
        Run two = Run.of("plain;");
        Edge.still("the only CUT", two, 0, "finds", 0, 1);
        Edge.bad(two, "finds", 1, Edge.row(0, 1), -1, 0, 2, MIN, MAX);
        Edge.bad(two, "finds", 0, Edge.row(0, 1), -1, 1, MIN, MAX);
        Edge.bad(Edge.NEW, "finds", 0, Edge.row(0, 1), -1, 0, 1, MIN, MAX);
        Edge.good(NINES, "finds", 1, Edge.row(3, 1), 1, 7);
        Edge.bad(NINES, "finds", 1, Edge.row(3, 1), -1, 0, 8, MIN, MAX);
        Edge.bad(Edge.SOME, "finds", 1, Edge.row(3, 1), -1, 0, 5, MIN, MAX);
        Edge.good(two.then("split", 0), "finds", 1, Edge.row(0, 1), 1, 2);
        Edge.still("the last CUT, joined", NINES.then("join", 0), -1, "finds", 0, 7);
    }

    // ---- 19

    private static void promise19Just() {
        Edge.still("to nobody", Edge.NEW, 0, "just", 1);
        Edge.still("to all", NOTHING, 15, "just", 1);
        Edge.still("to all, the last CUT", NOTHING, 15, "just", 2);
        Edge.still("to none of four", NINES, 0, "just", 1);
        Edge.still("to the first alone", Run.of("thing 1 1;plain;child;sweet;"), 1, "just", 1);
        // plain 3:3, child 6:3, sweet 7:4, dealer 1:1
        Edge.still("to the first and the last", Run.of("thing 3 3;" + FOUR), 9, "just", 1);
        Edge.still("SLIP 2", Run.of("thing 3 3;" + FOUR + "slip 2;"), 9, "just", 1);
        Edge.still("SLIP 3", Run.of("thing 3 3;" + FOUR + "slip 3;"), 15, "just", 1);
        Edge.bad(Edge.NEW, "just", 0, Edge.row(1), -1, 0, 2, MIN, MAX);
        Edge.bad(NINES, "just", 0, Edge.row(1), -1, 0, 8, MIN, MAX);
        Edge.bad(Edge.SOME, "just", 0, Edge.row(1), -1, 0, 5, MIN, MAX);
        Edge.good(NINES, "just", 0, Edge.row(1), 1, 7);
    }

    // ---- 20

    private static void promise20Middle() {
        Edge.still("the only CUT", Run.of("thing 0 9;plain;"), 1, "middle", 0);
        Edge.still("JUST to none", Run.of("thing 0 9;plain;"), 0, "middle", 1);
        Edge.still("all CUTS JUST to none, the first", Run.of("thing 9 0 0 0;plain;"), 1, "middle", 0);
        Edge.still("all CUTS JUST to all, the first", NOTHING, 1, "middle", 0);
        Edge.still("JUST to all four", NOTHING, 4, "middle", 1);
        Run last = Run.of("thing 1 1 1 1 1 1 1 7;plain;");
        Edge.still("the last CUT alone", last, 7, "middle", 0);
        Edge.still("to one", last, 1, "middle", 1);
        // plain 1:3, 2:2, 3:1; child 2:3, 3:2, 4:1
        Run slip = Run.of("thing 1 1 1 1;plain;child;slip 1;");
        Edge.still("CUT 2 to both, CUT 1 to one", slip, 2, "middle", 0);
        Edge.still("to both", slip, 2, "middle", 1);
        Edge.still("of several the first", slip.then("set", 2, 2), 1, "middle", 0);
        Edge.bad(Edge.NEW, "middle", 0, Edge.row(0), -1, 2, MIN, MAX);
        Edge.bad(Edge.SOME, "middle", 0, Edge.row(0), -1, 2, MIN, MAX);
        Edge.bad(Edge.ALL, "middle", 0, Edge.row(0), -1, 2, MIN, MAX);
    }

    private static void promise20MiddleOfNobody() {
        Edge.still("nobody: the first CUT", Edge.NEW, 1, "middle", 0);
        Edge.still("nobody: to none", Edge.NEW, 0, "middle", 1);
        Edge.still("nobody, of 8 CELLS", Run.of("thing 1 1 1 1 1 1 1 1;"), 1, "middle", 0);
    }

    // ---- 21

    private static void promise21Honest() {
        Edge.still("the only CUT", Run.of("thing 0 9;plain;"), 1, "honest", 0);
        for (int p = 0; p < 4; p++) {
            Edge.still("all alike, the first", NOTHING, 1, "honest", p);
        }
        Edge.still("the last CUT", Run.of("thing 1 1 1 1 1 1 1 9;plain;"), 7, "honest", 0);
        Edge.still("the first CUT", Run.of("thing 9 1 1 1 1 1 1 1;plain;"), 1, "honest", 0);
        // 1:2 and 2:1 differ alike.
        Edge.still("of two the first", Run.of("thing 1 1 1;plain;"), 1, "honest", 0);
        // 2:4, 3:3 and 3:3
        Edge.still("of two that are not the first CUT", Run.of("thing 2 1 0 3;plain;"), 2, "honest", 0);
        // 1:3, 2:2: SLIP makes both JUST, but not HONEST.
        Edge.still("SLIP is nothing to it", Run.of("thing 1 1 2;plain;slip 9;"), 2, "honest", 0);
        // dealer: 0:1 and 0:1 and 0:1
        Edge.still("to a dealer all alike", Run.of("thing 1 1 1 3;dealer;"), 1, "honest", 0);
        Edge.bad(Edge.NEW, "honest", 0, Edge.row(0), -1, 0, 1, MIN, MAX);
        Edge.bad(Run.of("plain;"), "honest", 0, Edge.row(0), -1, 1, MIN, MAX);
        Edge.bad(NINES, "honest", 0, Edge.row(0), -1, 4, MIN, MAX);
        Edge.good(NINES, "honest", 0, Edge.row(0), 0, 3);
    }

    // ---- 22

    private static void promise22Chosen() {
        Run alike = Run.of("thing 4 4;plain;plain;");
        Edge.still("alike: the second one takes LEFT", alike, 4, "chosen", 0, 1, 1);
        Edge.still("alike: RIGHT is left", alike, 4, "chosen", 0, 1, 0);
        Edge.still("alike: no envy", alike, 0, "chosen", 0, 1, 2);
        // The dealer finds 1:1; LEFT is taken, which is 3 to 2.
        Run dealer = Run.of("thing 3 2;plain;dealer;");
        Edge.still("alike to who chooses: LEFT is taken", dealer, 2, "chosen", 0, 1, 0);
        Edge.still("alike to who chooses: its worth", dealer, 1, "chosen", 0, 1, 1);
        Edge.still("1 more: envy", dealer, 1, "chosen", 0, 1, 2);
        Run more = Run.of("thing 2 3;plain;dealer;");
        Edge.still("LEFT is taken though less to the first", more, 3, "chosen", 0, 1, 0);
        Edge.still("1 less: no envy", more, 0, "chosen", 0, 1, 2);
        Run right = Run.of("thing 2 3;plain;plain;");
        Edge.still("RIGHT 1 more: RIGHT is taken", right, 2, "chosen", 0, 1, 0);
        Edge.still("RIGHT 1 more: its worth", right, 3, "chosen", 0, 1, 1);
        for (int what = 0; what < 3; what++) {
            Edge.still("worth nothing", NOTHING, 0, "chosen", 0, 3, what);
            Edge.still("worth nothing", NOTHING, 0, "chosen", 3, 0, what);
        }
        // SLIP 9 does not make LEFT and RIGHT alike to who chooses.
        Edge.still("SLIP is nothing to it", right.then("set", 2, 9), 3, "chosen", 0, 1, 1);
        // plain cuts 36:36; the sweet one takes LEFT: 19 and 3 times 10.
        Edge.still("of 8 CELLS: the first one's", NINES, 36, "chosen", 0, 2, 0);
        Edge.still("of 8 CELLS: the second one's", NINES, 49, "chosen", 0, 2, 1);
        Edge.still("the last PERSON cuts: dealer 16", NINES, 16, "chosen", 3, 0, 0);
    }

    private static void promise22ChosenRefused() {
        for (int what = 0; what < 3; what++) {
            for (int p = -1; p < 5; p++) {
                Edge.still("alike", NINES, -1, "chosen", p, p, what);
            }
            Edge.bad(Edge.NEW, "chosen", 0, Edge.row(0, 1, what), -1, 0, 1, MIN, MAX);
            Edge.bad(Run.of("plain;"), "chosen", 1, Edge.row(0, 1, what), -1, 0, 1, MIN, MAX);
            Edge.bad(NINES, "chosen", 0, Edge.row(0, 1, what), -1, 1, 4, MIN, MAX);
            Edge.bad(NINES, "chosen", 1, Edge.row(0, 1, what), -1, 0, 4, MIN, MAX);
        }
        Edge.good(NINES, "chosen", 0, Edge.row(0, 1, 0), 0, 2, 3);
        Edge.good(NINES, "chosen", 1, Edge.row(0, 1, 0), 1, 2, 3);
        Edge.bad(NINES, "chosen", 2, Edge.row(0, 1, 0), -1, 3, MIN, MAX);
        Edge.bad(Edge.SOME, "chosen", 2, Edge.row(0, 1, 0), -1, 3, MIN, MAX);
    }

    // ---- 23

    private static void promise23Sly() {
        Edge.still("the only CUT", Run.of("thing 0 9;plain;plain;"), 1, "sly", 0, 1, 0);
        Edge.still("he gets nothing", Run.of("thing 0 9;plain;plain;"), 0, "sly", 0, 1, 1);
        Edge.still("worth nothing, the first", NOTHING, 1, "sly", 0, 1, 0);
        Edge.still("worth nothing", NOTHING, 0, "sly", 0, 1, 1);
        Run alike = Run.of("thing 4 4;plain;plain;");
        Edge.still("alike: RIGHT is left", alike, 4, "sly", 0, 1, 1);
        // 1:2 takes RIGHT, 2:1 takes LEFT: 1 either way.
        Edge.still("of several the first", Run.of("thing 1 1 1;plain;plain;"), 1, "sly", 0, 1, 0);
        // 1:10, 2:9, 3:8, 4:7, 5:6, 6:5, 7:4: 1 2 3 4 5 5 4.
        Run eight = Run.of("thing 1 1 1 1 1 1 1 4;plain;plain;");
        Edge.still("of two the first", eight, 5, "sly", 0, 1, 0);
        Edge.still("how much that is", eight, 5, "sly", 0, 1, 1);
        // 1:14, 5:10, 11:4: 1 5 4.
        Run second = Run.of("thing 1 4 6 4;plain;plain;");
        Edge.still("the second CUT", second, 2, "sly", 0, 1, 0);
        Edge.still("what it is", second, 5, "sly", 0, 1, 1);
        // 9:5, 13:1: 5 1.
        Edge.still("the first CUT", Run.of("thing 9 4 1;plain;plain;"), 1, "sly", 0, 1, 0);
        Run last = Run.of("thing 1 1 1 1 1 1 1 9;plain;plain;");
        Edge.still("the last CUT", last, 7, "sly", 0, 1, 0);
        Edge.still("what it is", last, 7, "sly", 0, 1, 1);
        // The dealer finds 1:1 and takes LEFT, which is 2 to 3.
        Edge.still("alike to who chooses", Run.of("thing 2 3;plain;dealer;"), 3, "sly", 0, 1, 1);
        Edge.still("SLIP is nothing to it", Run.of("thing 2 3;plain;plain;slip 9;"), 2, "sly", 0, 1, 1);
    }

    private static void promise23SlyRefused() {
        for (int what = 0; what < 2; what++) {
            for (int p = -1; p < 5; p++) {
                Edge.still("alike", NINES, -1, "sly", p, p, what);
            }
            Edge.bad(Edge.NEW, "sly", 0, Edge.row(0, 1, what), -1, 0, 1, MIN, MAX);
            Edge.bad(Run.of("plain;"), "sly", 1, Edge.row(0, 1, what), -1, 0, 1, MIN, MAX);
            Edge.bad(NINES, "sly", 0, Edge.row(0, 1, what), -1, 1, 4, MIN, MAX);
            Edge.bad(NINES, "sly", 1, Edge.row(0, 1, what), -1, 0, 4, MIN, MAX);
        }
        Edge.good(NINES, "sly", 0, Edge.row(0, 1, 0), 0, 2, 3);
        Edge.good(NINES, "sly", 1, Edge.row(0, 1, 0), 1, 2, 3);
        Edge.bad(NINES, "sly", 2, Edge.row(0, 1, 0), -1, 2, 3, MIN, MAX);
        Edge.bad(Edge.SOME, "sly", 2, Edge.row(0, 1, 0), -1, 2, MIN, MAX);
    }

    // ---- 24

    private static void promise24HalvesPeople() {
        Edge.still("to nobody, of nobody", Edge.NEW, 0, "halves", 0, 0);
        Edge.still("to nobody, the least set", Edge.NEW, 0, "halves", 0, 1);
        Edge.still("to nobody, of four", NINES, 0, "halves", 0, 0);
        Edge.bad(Edge.NEW, "halves", 0, Edge.row(0, 0), -1, 1, 2, MIN, MAX);
        Edge.bad(Run.of("plain;"), "halves", 0, Edge.row(1, 0), -1, 2, 3, MIN, MAX);
        Edge.bad(NINES, "halves", 0, Edge.row(1, 0), -1, 16, 17, MIN, MAX);
        Edge.bad(NINES, "halves", 1, Edge.row(1, 0), -1, 2, MIN, MAX);
        Edge.bad(Edge.SOME, "halves", 1, Edge.row(15, 0), -1, 2, MIN, MAX);
        Edge.bad(Edge.NEW, "halves", 1, Edge.row(0, 0), -1, 2, MIN, MAX);
        Edge.still("to all of four", NOTHING, 0, "halves", 15, 0);
        // The child has 81 in all, which is odd; the others would do.
        Edge.still("to all but one", NINES, -4, "halves", 2, 0);
        Edge.still("to all but one", NINES, -4, "halves", 15, 1);
        Edge.still("to the last one alone", NINES, 15, "halves", 8, 1);
    }

    private static void promise24HalvesCuts() {
        Edge.still("no CUT: worth nothing", NOTHING, 0, "halves", 1, 0);
        Edge.still("no CUT: the empty set", NOTHING, 0, "halves", 1, 1);
        Run two = Run.of("thing 4 4;plain;");
        Edge.still("the only CUT", two, 1, "halves", 1, 0);
        Edge.still("the lesser of two sets", two, 1, "halves", 1, 1);
        // 1:2 only, by CELLS 0, 2 and 1: two CUTS, sets 5 and 2.
        Run middle = Run.of("thing 1 2 1;plain;");
        Edge.still("two CUTS", middle, 2, "halves", 1, 0);
        Edge.still("the set without CELL 0 is less", middle, 2, "halves", 1, 1);
        // sweet 11 10 6 2 6 10 4 4, dealer 2 4 3 1 3 4 2 1: by every other CELL alone, 27:26 and 10:10.
        Run every = Run.of("thing 5 9 6 2 6 9 4 3;sweet;dealer;slip 1;");
        Edge.still("as many CUTS as there may be", every, 7, "halves", 3, 0);
        Edge.still("every other CELL", every, 85, "halves", 3, 1);
        Edge.still("by none", every.then("set", 2, 0), -4, "halves", 3, 0);
        Edge.still("by none, no set", every.then("set", 2, 0), -4, "halves", 3, 1);
        // 3:3 by the last CUT alone.
        Run fewer = Run.of("thing 1 1 1 3;plain;");
        Edge.still("the last CUT", fewer, 1, "halves", 1, 0);
        Edge.still("all ahead of it", fewer, 7, "halves", 1, 1);
        // 3:3 by CELL 1 in two CUTS (set 2), by LEFT of CUT 2 or 3 in one (sets 3 and 7).
        Run greater = Run.of("thing 0 3 0 3;plain;");
        Edge.still("fewest CUTS are ahead of the least set", greater, 3, "halves", 1, 1);
    }

    private static void promise24HalvesSlip() {
        Run nine = Run.of("thing 4 5;plain;slip 9;");
        Edge.still("all is worth just SLIP: no CUT", nine, 0, "halves", 1, 0);
        Edge.still("all is worth just SLIP: the empty set", nine, 0, "halves", 1, 1);
        Edge.still("all is worth 1 more than SLIP", nine.then("set", 2, 8), 1, "halves", 1, 0);
        Edge.still("differs by just SLIP", nine.then("set", 2, 1), 1, "halves", 1, 1);
        Edge.still("differs by 1 more than SLIP", nine.then("set", 2, 0), -4, "halves", 1, 0);
        Run ten = Run.of("thing 5 5;plain;slip 9;");
        Edge.still("all is worth 10", ten, 1, "halves", 1, 0);
    }

    // ---- 25

    private static void promise25Stop() {
        Run most = Run.of("fine 99;");
        Edge.still("at no cost to the end", most, 7, "stop", 0, 0);
        Edge.still("at no cost", most, 1, "stop", 0, 1);
        Edge.still("at the greatest cost none", most, 0, "stop", 99, 0);
        Edge.still("at the greatest cost FINE", most, 99, "stop", 99, 1);
        // 50 and 49 is 99: of several the fewest.
        Edge.still("as much either way: none", most, 0, "stop", 49, 0);
        Edge.still("1 less: one", most, 1, "stop", 48, 0);
        Edge.still("1 less: how much", most, 98, "stop", 48, 1);
        // 99 50 25 13 7 4 2 1 and n: 99 51 27 16 11 9 8 8
        Edge.still("cost 1: of two the fewer", most, 6, "stop", 1, 0);
        Edge.still("cost 1: how much", most, 8, "stop", 1, 1);
        Edge.still("no FINE", Edge.NEW, 0, "stop", 0, 0);
        Edge.still("no FINE, nothing", Edge.NEW, 0, "stop", 99, 1);
        Edge.still("FINE 1", Run.of("fine 1;"), 0, "stop", 0, 0);
        Edge.still("FINE 1, that", Run.of("fine 1;"), 1, "stop", 0, 1);
        Edge.still("FINE 2 at no cost", Run.of("fine 2;"), 1, "stop", 0, 0);
        Edge.still("FINE 2 at cost 1: as much", Run.of("fine 2;"), 0, "stop", 1, 0);
        Edge.still("FINE 2 at cost 1", Run.of("fine 2;"), 2, "stop", 1, 1);
        Run one = most.then("appeal");
        Edge.still("from now on", one, 6, "stop", 0, 0);
        Edge.still("from now on: those before cost nothing more", one, 50, "stop", 99, 1);
    }

    private static void promise25StopRefused() {
        for (Run made : new Run[] {Edge.NEW, Edge.SOME, Edge.ALL}) {
            Edge.bad(made, "stop", 0, Edge.row(0, 0), -1, 100, MIN, MAX);
            Edge.bad(made, "stop", 1, Edge.row(99, 0), -1, 2, MIN, MAX);
            Edge.good(made, "stop", 0, Edge.row(0, 1), 0, 99);
        }
        Edge.still("both beyond", Edge.NEW, -1, "stop", 100, 2);
    }
}
