/** The boundary cases of promises 35 to 41: images, sheets, what is counted. */
public final class SheetEdgeTest {

    private static final int MIN = Edge.MIN;
    private static final int MAX = Edge.MAX;
    private static final Run EIGHT = Run.of("thing 1 2 3 4 5 6 7 8;plain;");

    public static void main(String[] args) {
        promise35Keep();
        promise35KeepRefused();
        promise36Back();
        promise36BackFromFewAndMany();
        promise36BackLeavesTheRest();
        promise36BackRefused();
        promise37Sheet();
        promise37SheetRefused();
        promise38LayPlaces();
        promise38LayLowestBits();
        promise38LayRefused();
        promise39ReadNone();
        promise39ReadMost();
        promise39ReadPlaces();
        promise39ReadWhole();
        promise39ReadWeighs();
        promise39ReadFirstMet();
        promise39ReadRefused();
        promise40Torn();
        promise40TornStays();
        promise41Count();
        Due.finish("SheetEdgeTest");
    }

    // ---- 35

    private static void promise35Keep() {
        for (int k = 0; k < 2; k++) {
            Edge.is("there was none", Edge.NEW, 0, "keep", k);
            Edge.is("there was one", Edge.NEW.then("keep", k), 1, "keep", k);
            Edge.is("there was another one", Edge.NEW.then("keep", 1 - k), 0, "keep", k);
            Edge.is("it is gone behind a text", Edge.NEW.then("keep", k).then("text"), 0, "keep", k);
            Edge.is("it stays behind a FAULT", Edge.NEW.then("keep", k).told("?"), 1, "keep", k);
            Edge.is("it stays behind back()", Edge.NEW.then("keep", k).then("back", k), 1, "keep", k);
        }
        Run kept = EIGHT.then("keep", 0).then("weigh", 0, 9);
        Edge.is("it is as it was kept", kept.then("back", 0), 1, "cell", 0);
        Edge.is("it is as it was kept anew", kept.then("keep", 0).then("weigh", 0, 5).then("back", 0), 9, "cell", 0);
        Edge.is("the other one is not kept anew", kept.then("keep", 1).then("weigh", 0, 5).then("back", 0), 1, "cell", 0);
    }

    private static void promise35KeepRefused() {
        for (Run made : new Run[] {Edge.NEW, Edge.SOME, Edge.ALL}) {
            Edge.bad(made, "keep", 0, Edge.row(0), -1, 2, MIN, MAX);
        }
    }

    // ---- 36

    private static void promise36Back() {
        Run back = Edge.SOME.then("back", 1);
        int[] rules = {5, 4, 1, 37, 0, 4, 1, 15};
        for (int what = 0; what < rules.length; what++) {
            Edge.is("as it was kept", back, rules[what], "rule", what);
        }
        Edge.is("one was SEEN", back, 1, "count", 0);
        Edge.is("one pair", back, -1, "pair", 1);
        Edge.is("there are 5 CELLS", Edge.SOME, 5, "back", 1);
        Edge.still("nothing has changed since", EIGHT.then("keep", 0), 8, "back", 0);
        Edge.still("for a second time", back, 5, "back", 1);
        Edge.is("a KIND is back", EIGHT.then("keep", 1).then("teach", 0, 3).then("back", 1), 0, "person", 0);
        Edge.is("then the other one", EIGHT.then("keep", 0).then("join", 0).then("keep", 1).then("back", 0), 7, "back", 1);
    }

    private static void promise36BackFromFewAndMany() {
        Run few = EIGHT.then("keep", 0);
        for (int i = 0; i < 6; i++) {
            few = few.then("join", 0);
        }
        Edge.is("2 CELLS become 8", few, 8, "back", 0);
        Edge.is("with their WEIGHTS", few.then("back", 0), 36, "rule", 7);
        Edge.is("the last one", few.then("back", 0), 8, "cell", 7);
        Run many = Edge.NEW.then("keep", 1);
        for (int i = 0; i < 6; i++) {
            many = many.then("split", 0);
        }
        Edge.is("8 CELLS become 2", many, 2, "back", 1);
        Edge.is("there is no third", many.then("back", 1), -1, "cell", 2);
        Run six = Run.of("plain;").then("keep", 0);
        for (int i = 0; i < 6; i++) {
            six = six.then("see", 0, 1, 0);
        }
        Edge.is("nothing is SEEN again", six.then("back", 0), 0, "count", 0);
        Edge.is("all six are SEEN again", six.then("keep", 1).then("forget", 0).then("back", 1), 6, "count", 0);
        Run eight = Edge.NEW.then("keep", 0);
        for (int i = 0; i < 8; i++) {
            eight = eight.then("lighter", 0, 1);
        }
        Edge.is("nothing is LIGHTER again", eight.then("back", 0), 0, "rule", 6);
        Edge.is("all eight pairs again", eight.then("keep", 1).then("back", 0).then("back", 1), 8, "rule", 6);
    }

    private static void promise36BackLeavesTheRest() {
        Run back = Edge.SOME.then("back", 1);
        Edge.is("THE TAPE", back, 25, "count", 2);
        Edge.is("SHEETS", back, 5, "count", 3);
        Edge.is("fault()", back, 3, "fault");
        Edge.is("torn()", back, 2, "torn");
        Edge.is("IMAGES", back, 1, "count", 1);
        Edge.is("what is on THE TAPE", back, 3, "text");
    }

    private static void promise36BackRefused() {
        Edge.still("there is none", Edge.NEW, -2, "back", 0);
        Edge.still("there is none", Edge.NEW, -2, "back", 1);
        Edge.still("there is the other one alone", Edge.SOME, -2, "back", 0);
        Edge.still("gone behind a text", Edge.ALL.then("end", 0).then("text"), -2, "back", 1);
        // BAD is ahead of STATE.
        for (Run made : new Run[] {Edge.NEW, Edge.SOME, Edge.ALL}) {
            Edge.bad(made, "back", 0, Edge.row(0), -1, 2, MIN, MAX);
        }
    }

    // ---- 37

    private static void promise37Sheet() {
        for (int k = 0; k < 4; k++) {
            for (int lane = 0; lane < 3; lane++) {
                Edge.is("with no CELL", Edge.NEW, 1, "sheet", k, lane, 0);
                Edge.is("with 40 CELLS", Edge.NEW, 1, "sheet", k, lane, 40);
                Run none = Edge.NEW.then("sheet", k, lane, 0);
                Edge.still("it is something, with no CELL", none, -12, "lay", k, 0, 0);
                Run most = Edge.NEW.then("sheet", k, lane, 40);
                Edge.is("its last CELL", most, 1, "lay", k, 39, 1);
                Edge.still("no CELL behind it", most, -12, "lay", k, 40, 1);
                Edge.is("of 0: WEIGHT of CELL 0", most.then("read", k, lane, 38, 1), 0, "cell", 0);
            }
        }
        Run laid = Edge.NEW.laid(0, 2, 1, 9, 1, 9);
        Edge.is("a new row of 0", laid.then("sheet", 0, 2, 4).then("read", 0, 2, 2, 1), 0, "cell", 0);
        Edge.is("its CELL 0 too", laid.then("sheet", 0, 2, 4).then("read", 0, 2, 0, 1), 0, "cell", 0);
        Edge.is("a shorter row", laid.then("sheet", 0, 2, 2), 2, "count", 3);
        Edge.still("what was beyond is gone", laid.then("sheet", 0, 2, 2), -12, "lay", 0, 2, 0);
        Edge.is("longer again, of 0", laid.then("sheet", 0, 2, 2).then("sheet", 0, 2, 4).then("read", 0, 2, 2, 1), 0,
            "cell", 0);
        Edge.is("of another lane", laid.then("sheet", 0, 1, 4), 1, "read", 0, 1, 0, 1);
        Edge.is("no more of the first", laid.then("sheet", 0, 1, 4), 0, "read", 0, 2, 0, 1);
        Edge.is("others stay", laid.then("sheet", 1, 1, 9), 4, "count", 3);
    }

    private static void promise37SheetRefused() {
        for (Run made : new Run[] {Edge.NEW, Edge.SOME, Edge.ALL}) {
            for (int n : new int[] {-1, -2, -40, MIN, MIN + 1}) {
                Edge.still("SIZE", made, -14, "sheet", 0, 0, n);
                Edge.still("SIZE", made, -14, "sheet", 3, 2, n);
            }
            Edge.bad(made, "sheet", 2, Edge.row(0, 0, 0), 41, 42, 256, MAX);
            // BAD is ahead of SIZE.
            for (int n : new int[] {0, 40, 41, -1, MIN}) {
                Edge.bad(made, "sheet", 0, Edge.row(0, 0, n), -1, 4, MIN, MAX);
                Edge.bad(made, "sheet", 1, Edge.row(0, 0, n), -1, 3, MIN, MAX);
            }
        }
    }

    // ---- 38

    private static void promise38LayPlaces() {
        for (int lane = 0; lane < 3; lane++) {
            Run five = Edge.NEW.then("sheet", 1, lane, 5);
            Edge.is("the first CELL", five, 1, "lay", 1, 0, 9);
            Edge.is("the last CELL", five, 1, "lay", 1, 4, 9);
            for (int i : new int[] {-1, -2, 5, 6, 40, MIN, MAX}) {
                Edge.still("INDEX", five, -12, "lay", 1, i, 9);
            }
            Run one = Edge.NEW.then("sheet", 1, lane, 1);
            Edge.is("the only CELL", one, 1, "lay", 1, 0, 9);
            Edge.still("none behind it", one, -12, "lay", 1, 1, 9);
        }
        for (int i : new int[] {-1, 0, 39, 40, MIN, MAX}) {
            Edge.still("NULL is ahead of INDEX", Edge.NEW, -11, "lay", 3, i, 0);
        }
    }

    private static void promise38LayLowestBits() {
        // A WEIGHT that comes as read() takes it, or -20 where it is below 0 or above 9.
        int[][] wide = {
            {0, 0, 0, 0}, {9, 9, 9, 9}, {10, -20, -20, -20}, {-1, -20, -20, -20}, {127, -20, -20, -20},
            {128, -20, -20, -20}, {255, -20, -20, -20}, {256, 0, -20, -20}, {256 + 9, 9, -20, -20},
            {-256, 0, -20, -20}, {-256 + 9, 9, -20, -20}, {256 + 10, -20, -20, -20}, {32767, -20, -20, -20},
            {32768, 0, -20, -20}, {32768 + 9, 9, -20, -20}, {65535, -20, -20, -20}, {65536, 0, 0, -20},
            {65536 + 9, 9, 9, -20}, {-65536 + 9, 9, 9, -20}, {MIN, 0, 0, -20}, {MIN + 9, 9, 9, -20},
            {MAX, -20, -20, -20}, {MAX - 255, 0, -20, -20}, {MAX - 65535, 0, 0, -20}};
        for (int[] row : wide) {
            for (int lane = 0; lane < 3; lane++) {
                Run made = Run.of("thing 5 5;").then("sheet", 2, lane, 2).then("lay", 2, 1, row[0]);
                Edge.is("any v is laid", Edge.NEW.then("sheet", 2, lane, 2), 1, "lay", 2, 1, row[0]);
                String name = row[0] + " in lane " + lane;
                int due = row[1 + lane];
                Edge.is(name, made, due < 0 ? due : 1, "read", 2, lane, 0, 1);
                Edge.is(name, made.then("read", 2, lane, 0, 1), due < 0 ? 5 : due, "cell", 0);
            }
        }
    }

    private static void promise38LayRefused() {
        for (Run made : new Run[] {Edge.NEW, Edge.SOME, Edge.ALL}) {
            Edge.bad(made, "lay", 0, Edge.row(0, 0, 0), -1, 4, MIN, MAX);
            Edge.bad(made, "lay", 0, Edge.row(0, -1, 9), -1, 4, MIN, MAX);
        }
        Edge.still("NULL", Edge.SOME, -11, "lay", 2, 0, 0);
        Edge.still("INDEX", Edge.SOME, -12, "lay", 0, 5, 0);
        Edge.still("INDEX", Edge.ALL, -12, "lay", 0, 40, 0);
        Edge.still("INDEX", Edge.ALL, -12, "lay", 2, -1, MAX);
    }

    // ---- 39

    private static void promise39ReadNone() {
        Run laid = Run.of("thing 5 5;").laid(0, 0, 0, 9);
        for (int f : new int[] {0, 1, 2, -1, MIN, MAX}) {
            Edge.is("none is read", laid, 0, "read", 0, 0, f, 0);
            Edge.still("none came", laid.then("read", 0, 0, f, 0), 0, "torn");
            Edge.still("none came", laid.then("read", 0, 0, f, 0), 5, "cell", 0);
        }
        // Nothing is read, so the machine has nothing to refuse: NOTES.md.
        Edge.still("of nothing", laid.then("read", 1, 0, 0, 0), 0, "torn");
        Edge.still("of another lane", laid.then("read", 0, 1, 0, 0), 0, "torn");
    }

    private static void promise39ReadMost() {
        Run most = Run.of("thing 5 5;").then("sheet", 0, 0, 40);
        Edge.is("20", most, 20, "read", 0, 0, 0, 20);
        Edge.is("20: no FAULT", most.then("read", 0, 0, 0, 20), 0, "torn");
        Edge.is("19", most, 19, "read", 0, 0, 2, 19);
        Edge.is("19: no FAULT", most.then("read", 0, 0, 2, 19), 0, "torn");
        Edge.is("19 of 20", most, 19, "read", 0, 0, 2, 20);
        Edge.is("19 of 20: INDEX", most.then("read", 0, 0, 2, 20), 2, "torn");
        Edge.is("19 and a half of 20", most, 19, "read", 0, 0, 1, 20);
        Edge.is("19 and a half of 20: INDEX", most.then("read", 0, 0, 1, 20), 2, "torn");
        Edge.is("the last one comes", most.then("lay", 0, 38, 1).then("lay", 0, 39, 9).then("read", 0, 0, 0, 20), 9,
            "cell", 1);
        Edge.is("the last one is refused", most.then("lay", 0, 39, 10), -39, "read", 0, 0, 0, 20);
        Edge.is("the first one is refused", most.then("lay", 0, 1, 10), -20, "read", 0, 0, 0, 20);
    }

    private static void promise39ReadPlaces() {
        for (int lane = 0; lane < 3; lane++) {
            Run four = Run.of("thing 5 5;").laid(3, lane, 0, 1, 1, 2);
            Edge.is("from the first", four, 2, "read", 3, lane, 0, 2);
            Edge.is("the last two", four, 1, "read", 3, lane, 2, 1);
            for (int f : new int[] {-1, -2, 3, 4, 5, 40, MIN, MIN + 1, MAX, MAX - 1}) {
                Edge.is("INDEX from " + f, four, 0, "read", 3, lane, f, 20);
                Edge.is("INDEX from " + f, four.then("read", 3, lane, f, 20), 2, "torn");
                Edge.is("INDEX from " + f, four.then("read", 3, lane, f, 20), 10, "rule", 7);
            }
            Run none = Edge.NEW.then("sheet", 3, lane, 0);
            Edge.is("with no CELL", none, 0, "read", 3, lane, 0, 1);
            Edge.is("with no CELL: INDEX", none.then("read", 3, lane, 0, 1), 2, "torn");
            Run one = Edge.NEW.then("sheet", 3, lane, 1);
            Edge.is("with one CELL", one, 0, "read", 3, lane, 0, 1);
            Edge.is("with one CELL: INDEX", one.then("read", 3, lane, 0, 1), 2, "torn");
        }
    }

    private static void promise39ReadWhole() {
        // The third is not whole: its CELL is there, its WEIGHT is not.
        Run half = Run.of("thing 5 5;").laid(0, 2, 0, 1, 1, 2, 99);
        Edge.is("whole ones come", half, 2, "read", 0, 2, 0, 3);
        Edge.is("whole ones come: CELL 0", half.then("read", 0, 2, 0, 3), 1, "cell", 0);
        Edge.is("whole ones come: CELL 1", half.then("read", 0, 2, 0, 3), 2, "cell", 1);
        Edge.is("INDEX", half.then("read", 0, 2, 0, 3), 2, "torn");
        Edge.is("one behind another", Run.of("thing 5 5;").laid(0, 2, 0, 1, 0, 2, 0, 3).then("read", 0, 2, 0, 3), 3,
            "cell", 0);
        Edge.is("a SHEET stays as it is", half.then("read", 0, 2, 0, 2).then("weigh", 0, 9).then("read", 0, 2, 0, 2), 1,
            "cell", 0);
    }

    private static void promise39ReadWeighs() {
        Run made = Run.of("thing 5 5 5;");
        Edge.is("the last CELL, the greatest", made.laid(1, 1, 2, 9), 1, "read", 1, 1, 0, 1);
        Edge.is("the first CELL, the least", made.laid(1, 1, 0, 0), 1, "read", 1, 1, 0, 1);
        int[][] refused = {{3, 5}, {-1, 5}, {0, 10}, {0, -1}, {127, 5}, {-128, 5}, {3, 10}};
        for (int lane = 0; lane < 3; lane++) {
            for (int[] row : refused) {
                Edge.still("refused by weigh()", made.laid(1, lane, row), -20, "read", 1, lane, 0, 1);
                Edge.still("the second is refused", made.laid(1, lane, 0, 9, row[0], row[1]), -21, "read", 1, lane, 0, 2);
                Edge.still("the third is", made.laid(1, lane, 0, 9, 2, 0, row[0], row[1], 0, 0), -22, "read", 1, lane, 0, 4);
            }
        }
        Edge.still("ends of an int", made.laid(1, 2, MIN, 0), -20, "read", 1, 2, 0, 1);
        Edge.still("ends of an int", made.laid(1, 2, MAX, 0), -20, "read", 1, 2, 0, 1);
        Edge.still("ends of an int", made.laid(1, 2, 0, MIN), -20, "read", 1, 2, 0, 1);
        Edge.still("ends of an int", made.laid(1, 2, 0, MAX), -20, "read", 1, 2, 0, 1);
        Run more = made.laid(1, 1, 3, 9);
        Edge.is("a CELL that was split", more.then("split", 0), 1, "read", 1, 1, 0, 1);
        Edge.still("a CELL that was joined", made.laid(1, 1, 2, 9).then("join", 0), -20, "read", 1, 1, 0, 1);
    }

    private static void promise39ReadFirstMet() {
        Run made = Run.of("thing 5 5;");
        Edge.still("refused, then INDEX", made.laid(0, 0, 0, 1, 9, 9, 0), -21, "read", 0, 0, 0, 20);
        Edge.still("refused, then refused", made.laid(0, 0, 0, 10, 9, 9), -20, "read", 0, 0, 0, 2);
        Edge.is("INDEX ahead of what it would be", made.laid(0, 0, 0, 1, 9), 1, "read", 0, 0, 0, 2);
        Run wrong = made.laid(0, 0, 9, 99);
        Edge.is("CAST ahead of what would be refused", wrong, 0, "read", 0, 1, 0, 1);
        Edge.is("CAST", wrong.then("read", 0, 1, 0, 1), 3, "torn");
        Edge.is("CAST ahead of INDEX", wrong.then("read", 0, 2, MIN, 1), 3, "torn");
        Edge.is("CAST with no CELL", Edge.NEW.then("sheet", 0, 0, 0).then("read", 0, 2, 0, 1), 3, "torn");
        for (int lane = 0; lane < 3; lane++) {
            Edge.is("NULL ahead of INDEX", Edge.NEW, 0, "read", 0, lane, -1, 20);
            Edge.is("NULL ahead of INDEX", Edge.NEW.then("read", 0, lane, -1, 20), 1, "torn");
            for (int other = 0; other < 3; other++) {
                Run row = Edge.NEW.then("sheet", 0, lane, 40);
                Edge.is("each lane as each", row, lane == other ? 20 : 0, "read", 0, other, 0, 20);
                Edge.is("each lane as each", row.then("read", 0, other, 0, 20), lane == other ? 0 : 3, "torn");
            }
        }
    }

    private static void promise39ReadRefused() {
        for (Run made : new Run[] {Edge.NEW, Edge.SOME, Edge.ALL}) {
            Edge.bad(made, "read", 0, Edge.row(0, 0, 0, 1), -1, 4, MIN, MAX);
            Edge.bad(made, "read", 1, Edge.row(0, 0, 0, 1), -1, 3, MIN, MAX);
            Edge.bad(made, "read", 3, Edge.row(0, 0, 0, 1), -1, 21, MIN, MAX);
            Edge.bad(made, "read", 3, Edge.row(2, 1, -1, 1), -1, 21, MIN, MAX);
        }
        Edge.good(Edge.ALL, "read", 0, Edge.row(0, 0, 0, 0), 0, 3);
        Edge.good(Edge.ALL, "read", 1, Edge.row(0, 0, 0, 0), 0, 2);
        Edge.good(Edge.ALL, "read", 3, Edge.row(0, 0, 0, 0), 0, 20);
        Edge.still("all beyond", Edge.SOME, -1, "read", 4, 3, MAX, 21);
    }

    // ---- 40

    private static void promise40Torn() {
        Edge.still("at first", Edge.NEW, 0, "torn");
        Edge.still("NULL", Edge.NEW.then("read", 0, 0, 0, 1), 1, "torn");
        Run row = Edge.NEW.then("sheet", 0, 0, 2);
        Edge.still("INDEX", row.then("read", 0, 0, 0, 2), 2, "torn");
        Edge.still("CAST", row.then("read", 0, 1, 0, 1), 3, "torn");
        Edge.still("none", row.then("read", 0, 0, 0, 1), 0, "torn");
        Edge.still("asked before", row.then("read", 0, 1, 0, 1).then("torn"), 3, "torn");
        Edge.still("the latest", row.then("read", 0, 1, 0, 1).then("read", 1, 0, 0, 1), 1, "torn");
        Edge.still("none of the latest", row.then("read", 0, 1, 0, 1).then("read", 0, 0, 0, 1), 0, "torn");
        Edge.still("none of a latest with n 0", row.then("read", 0, 1, 0, 1).then("read", 0, 0, 0, 0), 0, "torn");
    }

    /** What did not come to an end, or is no read(), leaves it. */
    private static void promise40TornStays() {
        Run torn = Edge.NEW.laid(0, 0, 0, 10).then("read", 0, 1, 0, 1);
        Edge.still("behind one that weigh() refuses", torn.then("read", 0, 0, 0, 1), 3, "torn");
        Edge.still("behind a BAD one", torn.then("read", 4, 0, 0, 1), 3, "torn");
        Edge.still("behind a BAD one", torn.then("read", 0, 3, 0, 1), 3, "torn");
        Edge.still("behind a BAD one", torn.then("read", 0, 0, 0, 21), 3, "torn");
        Edge.still("behind a FAULT of lay()", torn.then("lay", 1, 0, 0), 3, "torn");
        Edge.still("behind a FAULT of lay()", torn.then("lay", 0, 2, 0), 3, "torn");
        Edge.still("behind a FAULT of sheet()", torn.then("sheet", 0, 0, -1), 3, "torn");
        Edge.still("behind a new SHEET", torn.then("sheet", 0, 0, 2), 3, "torn");
        Edge.still("behind a text", torn.told("plain;"), 3, "torn");
        Edge.still("behind a FAULT of a text", torn.told("?"), 3, "torn");
        Edge.still("behind back()", Edge.NEW.then("keep", 0).then("read", 0, 0, 0, 1).then("back", 0), 1, "torn");
    }

    // ---- 41

    private static void promise41Count() {
        int[] none = {0, 0, 0, -4};
        int[] some = {3, 1, 25, 5};
        int[] all = {6, 2, 160, 40};
        for (int what = 0; what < 4; what++) {
            Edge.still("none", Edge.NEW, none[what], "count", what);
            Edge.still("some", Edge.SOME, some[what], "count", what);
            Edge.still("all", Edge.ALL, all[what], "count", what);
        }
        Edge.still("one IMAGE kept twice", Edge.NEW.then("keep", 1).then("keep", 1), 1, "count", 1);
        Edge.still("both IMAGES", Edge.NEW.then("keep", 1).then("keep", 0), 2, "count", 1);
        Edge.still("SHEET 0 with no CELL", Edge.NEW.then("sheet", 0, 1, 0), 0, "count", 3);
        Edge.still("SHEET 0 is nothing, others are not", Edge.NEW.then("sheet", 1, 1, 5), -4, "count", 3);
        Edge.still("SHEET 0 is nothing still", Edge.NEW.then("sheet", 0, 1, -1), -4, "count", 3);
        for (Run made : new Run[] {Edge.NEW, Edge.SOME, Edge.ALL}) {
            Edge.bad(made, "count", 0, Edge.row(0), -1, 4, 5, MIN, MAX);
        }
    }
}
