import java.util.ArrayList;
import java.util.List;
import java.util.TreeSet;

/**
 * Every call with arguments, its arguments at all their bounds, one step beyond these and at the ends of an int, in
 * all combinations, of an object that is new, of one with some of everything, of one that is full: what is BAD is
 * told by a table of bounds here; what is refused or only asks changes nothing; what is taken is as in the model.
 */
public final class GridTest {

    /** How many there are of what bounds an argument. */
    private record Sizes(int cells, int people, int halves, int pairs, int seen, int bytes) {
    }

    private static final String CHANGING = " feed end weigh split join teach set appeal lighter see forget keep back "
        + "sheet lay read ";
    private static final String[] CALLS = {"feed", "end", "rule", "cell", "person", "pair", "weigh", "split", "join",
        "teach", "set", "lighter", "worth", "finds", "just", "middle", "honest", "chosen", "sly", "halves", "stop",
        "orders", "next", "luck", "mean", "see", "forget", "fits", "kinds", "drift", "keep", "back", "sheet", "lay",
        "read", "count"};
    private static final int[] ANY = {Integer.MIN_VALUE, Integer.MAX_VALUE};
    private static final int BATCH = 80;

    private final Run made;
    private final Sizes sizes;
    private final List<List<Long>> before = new ArrayList<>();
    private final List<int[]> batch = new ArrayList<>();
    private int refused;
    private int taken;

    private GridTest(Run made, Sizes sizes) {
        this.made = made;
        this.sizes = sizes;
        for (int part = 0; part < Whole.PARTS; part++) {
            before.add(Whole.part(part, made.object()));
        }
        if (made.length() + BATCH + Whole.MOST_CALLS > 512) {
            throw new IllegalStateException("more than 512 calls");
        }
    }

    public static void main(String[] args) {
        grid("new", Edge.NEW, new Sizes(2, 0, 2, 0, 0, 0));
        grid("some", Edge.SOME, new Sizes(5, 4, 4, 2, 3, 25));
        grid("all", Edge.ALL, new Sizes(8, 4, 5, 8, 6, 160));
        Due.finish("GridTest");
    }

    private static void grid(String name, Run made, Sizes sizes) {
        GridTest test = new GridTest(made, sizes);
        for (String call : CALLS) {
            test.refused = 0;
            test.taken = 0;
            int[][] bounds = test.bounds(call);
            test.each(call, bounds, 0, new int[bounds.length]);
            test.flush(call);
            Due.holds(name + ": some of " + call + " are refused", test.refused > 0);
        }
    }

    /** The bounds of each argument: pairs of the least and the greatest that is taken. */
    private int[][] bounds(String call) {
        int[] cell = {0, sizes.cells - 1};
        int[] person = {0, sizes.people - 1};
        int[] half = {0, sizes.halves - 1};
        int[] cut = {1, sizes.cells - 1};
        int[] two = {0, 1};
        int[] three = {0, 2};
        int[] four = {0, 3};
        switch (call) {
            case "feed": return new int[][] {{0, 127}};
            case "end": return new int[][] {{0, sizes.bytes}};
            case "rule": return new int[][] {{0, 7}};
            case "cell": case "split": case "fits": return new int[][] {cell};
            case "person": case "honest": case "kinds": return new int[][] {person};
            case "pair": return new int[][] {{0, sizes.pairs - 1}};
            case "weigh": return new int[][] {cell, {0, 9}};
            case "join": return new int[][] {{0, sizes.cells - 2}};
            case "teach": return new int[][] {person, four};
            case "set": return new int[][] {{2, 3}, {0, 99}};
            case "lighter": return new int[][] {half, half};
            case "worth": return new int[][] {person, {0, (1 << sizes.cells) - 1}};
            case "finds": return new int[][] {person, cut};
            case "just": return new int[][] {cut};
            case "middle": case "next": case "keep": case "back": return new int[][] {two};
            case "chosen": return new int[][] {person, person, three};
            case "sly": return new int[][] {person, person, two};
            case "halves": return new int[][] {{0, (1 << sizes.people) - 1}, two};
            case "stop": return new int[][] {{0, 99}, two};
            case "orders": return new int[][] {{0, 2, 10, 9 + sizes.halves}};
            case "luck": case "mean": return new int[][] {{0, 10}, cut, two};
            case "see": return new int[][] {person, cut, three};
            case "forget": return new int[][] {{0, sizes.seen}};
            case "drift": return new int[][] {ANY, {1, 60}, two};
            case "sheet": return new int[][] {four, three, {Integer.MIN_VALUE, 40}};
            case "lay": return new int[][] {four, ANY, ANY};
            case "read": return new int[][] {four, three, ANY, {0, 20}};
            default: return new int[][] {four};
        }
    }

    /** What is BAD although each argument alone is within its bounds. */
    private static boolean isBadTogether(String call, int[] args) {
        switch (call) {
            case "lighter": case "chosen": case "sly": return args[0] == args[1];
            case "set": return args[0] == 2 && args[1] > 9;
            default: return false;
        }
    }

    private void each(String call, int[][] bounds, int at, int[] args) {
        if (at == bounds.length) {
            one(call, bounds, args.clone());
            return;
        }
        for (int value : values(bounds[at], call.equals("set"))) {
            args[at] = value;
            each(call, bounds, at + 1, args);
        }
    }

    private static TreeSet<Integer> values(int[] bounds, boolean isSet) {
        TreeSet<Integer> all = new TreeSet<>(List.of(Integer.MIN_VALUE, -1, 0, 1, Integer.MAX_VALUE));
        if (isSet) {
            all.addAll(List.of(9, 10));
        }
        if (bounds == ANY) {
            all.addAll(List.of(4, 5, 38, 39, 40));
            return all;
        }
        for (int i = 0; i < bounds.length; i++) {
            int beyond = i % 2 == 0 ? -1 : 1;
            all.add(bounds[i] + beyond);
            all.add(bounds[i]);
        }
        return all;
    }

    private void one(String call, int[][] bounds, int[] args) {
        boolean isBad = isBadTogether(call, args);
        for (int i = 0; i < args.length; i++) {
            isBad |= !isWithin(args[i], bounds[i]);
        }
        HalfScales x = made.object();
        Model m = made.model();
        long answer = Run.call(x, call, args);
        String name = Run.told(call, args) + " answered " + answer;
        Due.holds(name, isBad == (answer == -1));
        Due.is(name, answer, Run.call(m, call, args));
        boolean isStill = answer < 0 || !CHANGING.contains(" " + call + " ");
        if (isStill) {
            refused += answer < 0 ? 1 : 0;
            batch.add(args);
            if (batch.size() == BATCH) {
                flush(call);
            }
            return;
        }
        // Each part needs an object of its own, so of many that are taken each shows one part.
        int part = taken++ % Whole.PARTS;
        Edge.same(name + " and then", Whole.part(part, x), Whole.part(part, m));
    }

    private static boolean isWithin(int value, int[] bounds) {
        for (int i = 0; i < bounds.length; i += 2) {
            if (value >= bounds[i] && value <= bounds[i + 1]) {
                return true;
            }
        }
        return false;
    }

    /** The calls of a batch, one behind another, have changed nothing. */
    private void flush(String call) {
        for (int part = 0; part < Whole.PARTS; part++) {
            HalfScales x = made.object();
            for (int[] args : batch) {
                Run.call(x, call, args);
            }
            Edge.same(batch.size() + " calls of " + call + " change nothing", Whole.part(part, x), before.get(part));
        }
        batch.clear();
    }
}
