/** The boundary cases of promises 10 to 16: what is changed. */
public final class ChangeEdgeTest {

    private static final int MIN = Edge.MIN;
    private static final int MAX = Edge.MAX;
    private static final Run TWO = Run.of("thing 4 7;");
    private static final Run SEVEN = Run.of("thing 1 2 3 4 5 6 7;");
    private static final Run EIGHT = Run.of("thing 1 2 3 4 5 6 7 8;");
    private static final Run FOUR = Run.of("plain;child;sweet;dealer;");

    public static void main(String[] args) {
        promise10Weigh();
        promise10WeighRefused();
        promise11SplitWeights();
        promise11SplitPlaces();
        promise11SplitFull();
        promise12JoinWeights();
        promise12JoinPlaces();
        promise12JoinState();
        promise13Teach();
        promise13TeachRefused();
        promise14SetSlip();
        promise14SetFine();
        promise14SetWhat();
        promise15Appeal();
        promise15AppealState();
        promise16LighterHalves();
        promise16LighterFull();
        promise16LighterState();
        Due.finish("ChangeEdgeTest");
    }

    // ---- 10

    private static void promise10Weigh() {
        Edge.is("the first CELL, the least", TWO, 4, "weigh", 0, 0);
        Edge.is("the last CELL of 2, the greatest", TWO, 7, "weigh", 1, 9);
        Edge.is("the last CELL of 8", EIGHT, 8, "weigh", 7, 0);
        Edge.is("what it was: 0", TWO.then("weigh", 0, 0), 0, "weigh", 0, 9);
        Edge.is("what it was: 9", TWO.then("weigh", 0, 9), 9, "weigh", 0, 0);
        Edge.still("as it was", TWO, 4, "weigh", 0, 4);
        cells("0 is taken", TWO.then("weigh", 0, 0), 0, 7);
        cells("9 is taken", TWO.then("weigh", 1, 9), 4, 9);
        cells("of 8 the last", EIGHT.then("weigh", 7, 0), 1, 2, 3, 4, 5, 6, 7, 0);
        Edge.is("the last one behind a split", TWO.then("split", 0), 7, "weigh", 2, 1);
        Edge.is("the last one behind a join", SEVEN.then("join", 0), 7, "weigh", 5, 1);
    }

    private static void promise10WeighRefused() {
        for (Run made : new Run[] {Edge.NEW, TWO, Edge.SOME, Edge.ALL}) {
            Edge.bad(made, "weigh", 1, Edge.row(0, 0), -1, 10, 99, 256, MIN, MAX);
            Edge.bad(made, "weigh", 0, Edge.row(0, 0), -1, 8, MIN, MAX);
        }
        Edge.still("no third CELL", TWO, -1, "weigh", 2, 0);
        Edge.still("no 9th CELL", EIGHT, -1, "weigh", 8, 0);
        Edge.still("no 8th CELL behind a join", EIGHT.then("join", 0), -1, "weigh", 7, 0);
        Edge.still("both beyond", TWO, -1, "weigh", 2, 10);
        Edge.still("both at the ends", TWO, -1, "weigh", MIN, MAX);
        Edge.still("both at the ends", TWO, -1, "weigh", MAX, MIN);
    }

    // ---- 11

    private static void promise11SplitWeights() {
        int[] up = {0, 1, 1, 2, 2, 3, 3, 4, 4, 5};
        int[] rest = {0, 0, 1, 1, 2, 2, 3, 3, 4, 4};
        for (int v = 0; v < 10; v++) {
            cells("split of " + v, TWO.then("weigh", 0, v).then("split", 0), up[v], rest[v], 7);
        }
    }

    private static void promise11SplitPlaces() {
        Edge.is("the first CELL of 2", TWO, 3, "split", 0);
        Edge.is("the last CELL of 2", TWO, 3, "split", 1);
        cells("the first", TWO.then("split", 0), 2, 2, 7);
        cells("the last", TWO.then("split", 1), 4, 4, 3);
        cells("the first of 7", SEVEN.then("split", 0), 1, 0, 2, 3, 4, 5, 6, 7);
        cells("the middle of 7", SEVEN.then("split", 3), 1, 2, 3, 2, 2, 5, 6, 7);
        cells("the last of 7", SEVEN.then("split", 6), 1, 2, 3, 4, 5, 6, 4, 3);
        for (Run made : new Run[] {Edge.NEW, TWO, Edge.SOME, Edge.ALL}) {
            Edge.bad(made, "split", 0, Edge.row(0), -1, 8, MIN, MAX);
        }
        Edge.still("no third CELL", TWO, -1, "split", 2);
        Edge.still("no 8th CELL", SEVEN, -1, "split", 7);
        Edge.is("the new last one", TWO.then("split", 1), 4, "split", 2);
    }

    private static void promise11SplitFull() {
        Edge.is("7 become 8", SEVEN, 8, "split", 6);
        Edge.is("8 by six splits", TWO.then("split", 0).then("split", 0).then("split", 0).then("split", 0).then("split", 0),
            8, "split", 0);
        for (int i = 0; i < 8; i++) {
            Edge.still("there are 8", EIGHT, -3, "split", i);
        }
        Edge.still("there are 8, with all else", Edge.ALL, -3, "split", 0);
        // BAD is ahead of FULL.
        Edge.bad(EIGHT, "split", 0, Edge.row(0), -1, 8, 9, MIN, MAX);
        Edge.is("room again behind a join", EIGHT.then("join", 6), 8, "split", 6);
    }

    // ---- 12

    private static void promise12JoinWeights() {
        for (int a = 0; a < 10; a++) {
            for (int b = 0; b < 10; b++) {
                Run made = Run.of("thing " + a + " " + b + " 3;");
                cells(a + " and " + b, made.then("join", 0), Math.min(9, a + b), 3);
            }
        }
        cells("just 9", Run.of("thing 2 4 5;").then("join", 1), 2, 9);
        cells("10 is 9", Run.of("thing 2 5 5;").then("join", 1), 2, 9);
        cells("18 is 9", Run.of("thing 2 9 9;").then("join", 1), 2, 9);
        cells("0 and 0", Run.of("thing 2 0 0;").then("join", 1), 2, 0);
    }

    private static void promise12JoinPlaces() {
        Edge.is("8 become 7", EIGHT, 7, "join", 0);
        Edge.is("3 become 2", Run.of("thing 1 2 3;"), 2, "join", 0);
        cells("the first of 8", EIGHT.then("join", 0), 3, 3, 4, 5, 6, 7, 8);
        cells("the middle of 8", EIGHT.then("join", 3), 1, 2, 3, 9, 6, 7, 8);
        cells("the last but one of 8", EIGHT.then("join", 6), 1, 2, 3, 4, 5, 6, 9);
        Edge.still("the last one of 8", EIGHT, -1, "join", 7);
        Edge.still("the last one of 3", Run.of("thing 1 2 3;"), -1, "join", 2);
        Edge.bad(EIGHT, "join", 0, Edge.row(0), -1, 8, MIN, MAX);
        Edge.bad(Edge.SOME, "join", 0, Edge.row(0), -1, 4, 5, MIN, MAX);
        Edge.bad(Edge.ALL, "join", 0, Edge.row(0), -1, 7, 8, MIN, MAX);
    }

    private static void promise12JoinState() {
        Edge.still("there are 2", TWO, -2, "join", 0);
        Edge.still("there are 2, new", Edge.NEW, -2, "join", 0);
        Run three = Run.of("thing 1 2 3;");
        Edge.still("2 are left", three.then("join", 0), -2, "join", 0);
        Edge.still("2 by an empty text", EIGHT.then("text"), -2, "join", 0);
        // BAD is ahead of STATE.
        Edge.bad(TWO, "join", 0, Edge.row(0), -1, 1, 2, MIN, MAX);
        Edge.is("there are 3 again", TWO.then("split", 0), 2, "join", 0);
        cells("split and joined", TWO.then("split", 1).then("join", 1), 4, 7);
    }

    // ---- 13

    private static void promise13Teach() {
        for (int p = 0; p < 4; p++) {
            for (int kind = 0; kind < 4; kind++) {
                Edge.is("from each KIND to each", FOUR, p, "teach", p, kind);
                Edge.is("it is of the KIND", FOUR.then("teach", p, kind), kind, "person", p);
            }
            Edge.still("of its own KIND", FOUR, p, "teach", p, p);
        }
        Edge.is("the only one", Run.of("plain;"), 0, "teach", 0, 3);
        Edge.is("others stay", FOUR.then("teach", 0, 3), 1, "person", 1);
    }

    private static void promise13TeachRefused() {
        Edge.bad(Edge.NEW, "teach", 0, Edge.row(0, 0), -1, 0, 1, MIN, MAX);
        Edge.bad(Run.of("plain;"), "teach", 0, Edge.row(0, 1), -1, 1, MIN, MAX);
        for (Run made : new Run[] {FOUR, Edge.SOME, Edge.ALL}) {
            Edge.bad(made, "teach", 0, Edge.row(0, 1), -1, 4, MIN, MAX);
            Edge.bad(made, "teach", 1, Edge.row(3, 0), -1, 4, MIN, MAX);
        }
        Edge.still("both beyond", FOUR, -1, "teach", 4, 4);
    }

    // ---- 14

    private static void promise14SetSlip() {
        Edge.is("the least SLIP", Run.of("slip 5;"), 5, "set", 2, 0);
        Edge.is("the greatest SLIP", Edge.NEW, 0, "set", 2, 9);
        Edge.is("it was the greatest", Edge.NEW.then("set", 2, 9), 9, "set", 2, 0);
        Edge.is("SLIP is 9", Edge.NEW.then("set", 2, 9), 9, "rule", 2);
        Edge.is("SLIP is 0", Run.of("slip 5;").then("set", 2, 0), 0, "rule", 2);
        Edge.still("as it was", Run.of("slip 5;"), 5, "set", 2, 5);
        for (Run made : new Run[] {Edge.NEW, Edge.SOME, Edge.ALL}) {
            Edge.bad(made, "set", 1, Edge.row(2, 0), -1, 10, 99, 100, MIN, MAX);
        }
        Edge.is("FINE is another", Run.of("fine 7;").then("set", 2, 9), 7, "rule", 3);
    }

    private static void promise14SetFine() {
        Edge.is("the least FINE", Run.of("fine 5;"), 5, "set", 3, 0);
        Edge.is("the greatest FINE", Edge.NEW, 0, "set", 3, 99);
        Edge.is("it was the greatest", Edge.NEW.then("set", 3, 99), 99, "set", 3, 0);
        Edge.is("FINE is 99", Edge.NEW.then("set", 3, 99), 99, "rule", 3);
        Edge.is("FINE is 0", Run.of("fine 5;").then("set", 3, 0), 0, "rule", 3);
        Edge.still("as it was", Run.of("fine 5;"), 5, "set", 3, 5);
        for (Run made : new Run[] {Edge.NEW, Edge.SOME, Edge.ALL}) {
            Edge.bad(made, "set", 1, Edge.row(3, 0), -1, 100, MIN, MAX);
        }
        Edge.is("SLIP is another", Run.of("slip 7;").then("set", 3, 9), 7, "rule", 2);
        Edge.is("APPEALS are others", Run.of("fine 7;").then("appeal").then("set", 3, 9), 1, "rule", 4);
    }

    private static void promise14SetWhat() {
        for (int v : new int[] {0, 2, 9}) {
            Edge.bad(Edge.NEW, "set", 0, Edge.row(2, v), -1, 0, 1, 4, 5, 6, 7, MIN, MAX);
            Edge.bad(Edge.SOME, "set", 0, Edge.row(2, v), -1, 0, 1, 4, 5, 6, 7, MIN, MAX);
        }
    }

    // ---- 15

    private static void promise15Appeal() {
        for (int fine = 2; fine < 100; fine++) {
            Run made = Edge.NEW.then("set", 3, fine);
            Edge.is("half of " + fine + ", up", made, fine / 2 + fine % 2, "appeal");
            Edge.is("FINE then", made.then("appeal"), fine / 2 + fine % 2, "rule", 3);
            Edge.is("one APPEAL", made.then("appeal"), 1, "rule", 4);
        }
    }

    private static void promise15AppealState() {
        Edge.still("FINE is 0", Edge.NEW, -2, "appeal");
        Edge.still("FINE is 1", Run.of("fine 1;"), -2, "appeal");
        Edge.is("FINE is 2", Run.of("fine 2;"), 1, "appeal");
        Edge.still("FINE has become 1", Run.of("fine 2;").then("appeal"), -2, "appeal");
        Edge.still("FINE has become 0", Run.of("fine 2;").then("set", 3, 0), -2, "appeal");
        Edge.is("FINE has become 2", Run.of("fine 1;").then("set", 3, 2), 1, "appeal");
        Edge.is("a refused one is none", Run.of("fine 1;").then("appeal"), 0, "rule", 4);
    }

    // ---- 16

    private static void promise16LighterHalves() {
        for (int many = 2; many <= 5; many++) {
            Run made = Run.of("case " + many + ";");
            Edge.is("the first and the last", made, 1, "lighter", 0, many - 1);
            Edge.is("the last and the first", made, 1, "lighter", many - 1, 0);
            Edge.bad(made, "lighter", 0, Edge.row(0, 0), -1, many, MIN, MAX);
            Edge.bad(made, "lighter", 1, Edge.row(0, 0), -1, many, MIN, MAX);
            for (int h = 0; h <= many; h++) {
                Edge.still("alike", made, -1, "lighter", h, h);
            }
            Edge.is("which they are", made.then("lighter", many - 1, 0), 10 * (many - 1), "pair", 0);
        }
        Edge.still("alike at the ends", Edge.NEW, -1, "lighter", MIN, MIN);
        Edge.still("alike at the ends", Edge.NEW, -1, "lighter", MAX, MAX);
        Edge.bad(Edge.SOME, "lighter", 0, Edge.row(0, 1), -1, 1, 4, MIN, MAX);
        Edge.bad(Edge.SOME, "lighter", 1, Edge.row(0, 1), -1, 0, 4, MIN, MAX);
    }

    private static void promise16LighterFull() {
        Run seven = Edge.NEW;
        for (int i = 1; i <= 7; i++) {
            Edge.is("the same told again", seven, i, "lighter", 0, 1);
            seven = seven.then("lighter", 0, 1);
        }
        Edge.is("the 8th", seven, 8, "lighter", 0, 1);
        Run eight = seven.then("lighter", 0, 1);
        Edge.still("the 9th", eight, -3, "lighter", 0, 1);
        Edge.still("the 9th of others", Edge.ALL, -3, "lighter", 3, 4);
        // FULL is told ahead of STATE, BAD ahead of both.
        Edge.still("the 9th, that can not be", eight, -3, "lighter", 1, 0);
        Edge.still("the 9th, that can not be", Edge.ALL, -3, "lighter", 4, 0);
        Edge.bad(eight, "lighter", 0, Edge.row(0, 1), -1, 1, 2, MIN, MAX);
        Edge.bad(Edge.ALL, "lighter", 1, Edge.row(0, 1), -1, 0, 5, MIN, MAX);
        Edge.still("8 told in a text", Run.of("lighter 0 1;".repeat(8)), -3, "lighter", 0, 1);
        Edge.is("room again behind a text", eight.then("text"), 1, "lighter", 1, 0);
        Edge.is("room again behind back()", Edge.NEW.then("keep", 0).then("lighter", 0, 1).then("back", 0), 1,
            "lighter", 1, 0);
    }

    private static void promise16LighterState() {
        Edge.still("the contrary", Edge.NEW.then("lighter", 0, 1), -2, "lighter", 1, 0);
        Edge.is("the same", Edge.NEW.then("lighter", 0, 1), 2, "lighter", 0, 1);
        Run chain = Run.of("case 5;").then("lighter", 0, 1).then("lighter", 1, 2).then("lighter", 2, 3)
            .then("lighter", 3, 4);
        for (int a = 0; a < 5; a++) {
            for (int b = 0; b < a; b++) {
                Edge.still("against a chain", chain, -2, "lighter", a, b);
                Edge.is("along a chain", chain, 5, "lighter", b, a);
            }
        }
        Run seven = chain.then("lighter", 0, 2).then("lighter", 0, 3).then("lighter", 0, 4);
        Edge.still("the 8th, that can not be", seven, -2, "lighter", 4, 0);
        Edge.is("the 8th, that can", seven, 8, "lighter", 1, 3);
        Edge.is("a refused one is none", seven.then("lighter", 4, 0), 7, "rule", 6);
        // Nothing is told of 0 and 1 beside 2 and 3.
        Run apart = Run.of("case 4;lighter 0 1;lighter 2 3;");
        Edge.is("two that were not compared", apart, 3, "lighter", 3, 0);
        Edge.is("two that were not compared", apart, 3, "lighter", 1, 2);
    }

    private static void cells(String name, Run made, int... weights) {
        HalfScales x = made.object();
        Due.is(name + ": CELLS", x.rule(0), weights.length);
        for (int i = 0; i < weights.length; i++) {
            Due.is(name + ": cell(" + i + ")", x.cell(i), weights[i]);
        }
        Due.is(name + ": no cell(" + weights.length + ")", x.cell(weights.length), -1);
    }
}
