import java.util.List;

/** Boundary cases: what a call answers behind a run of calls, and that a refused one leaves everything as it was. */
final class Edge {

    static final int MIN = Integer.MIN_VALUE;
    static final int MAX = Integer.MAX_VALUE;

    static final Run NEW = new Run();

    /** Something of everything, nothing full. */
    static final Run SOME = Run.of("thing 3 1 4 2 5;plain;child;sweet;dealer;slip 1;fine 37;case 4;lighter 0 1;")
        .then("see", 0, 3, 0).then("keep", 1).then("weigh", 1, 6).then("see", 1, 2, 2).then("see", 3, 4, 1)
        .then("appeal").then("lighter", 2, 1).then("set", 2, 2)
        .laid(0, 2, 1, 7, 2, 300, 0).laid(1, 0, 4, 2, 0, 8).laid(3, 1, 3, 3, 3)
        .then("read", 1, 0, 2, 2).told("slip 10;").fed("thing 7 2 8;sweet;slip 5;");

    /** As much of everything as there may be. */
    static final Run ALL = Run.of("thing 9 8 7 6 5 4 3 2;plain;child;sweet;dealer;slip 9;fine 99;case 5;")
        .then("keep", 0).then("weigh", 7, 9)
        .then("lighter", 0, 1).then("lighter", 0, 2).then("lighter", 0, 3).then("lighter", 0, 4)
        .then("lighter", 1, 2).then("lighter", 1, 3).then("lighter", 1, 4).then("lighter", 2, 3)
        .then("see", 0, 1, 2).then("see", 1, 2, 2).then("see", 2, 3, 0).then("see", 3, 7, 1)
        .then("see", 0, 7, 1).then("see", 1, 7, 1).then("keep", 1)
        .then("sheet", 0, 0, 40).then("sheet", 1, 1, 40).then("sheet", 2, 2, 40).laid(3, 0, 7, 9)
        .told("?").fed("thing 0 1 2 3 4 5 6 7;dealer;dealer;dealer;dealer;slip 8;fine 98;case 5;"
            + "lighter 4 0;lighter 4 1;lighter 4 2;lighter 4 3;lighter 3 0;lighter 3 1;lighter 3 2;    ");

    private Edge() {
    }

    /** What a call answers behind a run. */
    static void is(String name, Run made, long want, String call, int... args) {
        Due.is(name + ": " + Run.told(call, args), Run.call(made.object(), call, args), want);
    }

    /** What a call answers that changes nothing: one that is refused, or that only asks. */
    static void still(String name, Run made, long want, String call, int... args) {
        String all = name + ": " + Run.told(call, args);
        if (made.length() + 1 + Whole.MOST_CALLS > 512) {
            throw new IllegalStateException("more than 512 calls: " + all);
        }
        for (int part = 0; part < Whole.PARTS; part++) {
            HalfScales x = made.object();
            Due.is(all, Run.call(x, call, args), want);
            same(all + " changes nothing, part " + part, Whole.part(part, x), Whole.part(part, made.object()));
        }
    }

    static void same(String name, List<Long> got, List<Long> want) {
        Due.holds(name + ", " + got + " for " + want, got.equals(want));
    }

    /** Each of these, put as the argument at a place, is refused as BAD and changes nothing. */
    static void bad(Run made, String call, int place, int[] args, int... values) {
        for (int value : values) {
            int[] row = args.clone();
            row[place] = value;
            still("first refused", made, -1, call, row);
        }
    }

    /** Each of these, put as the argument at a place, is not refused. */
    static void good(Run made, String call, int place, int[] args, int... values) {
        for (int value : values) {
            int[] row = args.clone();
            row[place] = value;
            long answer = Run.call(made.object(), call, row);
            Due.holds("last taken: " + Run.told(call, row) + " answered " + answer, answer >= 0);
        }
    }

    static int[] row(int... values) {
        return values;
    }
}
