import java.util.ArrayList;
import java.util.List;

/**
 * All that can be asked of an object. Some of it (what an IMAGE holds, what is on THE TAPE) can only be asked by
 * changing the rest, so it is asked in parts, each of a fresh object. A part takes some 170 calls at most.
 */
final class Whole {

    static final int PARTS = 4;
    static final int MOST_CALLS = 170;

    private final Object target;
    private final List<Long> answers = new ArrayList<>();

    private Whole(Object target) {
        this.target = target;
    }

    static List<Long> part(int which, Object target) {
        Whole whole = new Whole(target);
        switch (which) {
            case 0: whole.now(); break;
            case 1: whole.images(); break;
            case 2: whole.sheets(); break;
            default: whole.tape(); break;
        }
        if (whole.answers.size() > MOST_CALLS) {
            throw new IllegalStateException("too many calls: " + whole.answers.size());
        }
        return whole.answers;
    }

    private long ask(String name, int... args) {
        long answer = Run.call(target, name, args);
        answers.add(answer);
        return answer;
    }

    private void shown() {
        for (int what = 0; what < 8; what++) {
            ask("rule", what);
        }
        for (int i = 0; i < 9; i++) {
            ask("cell", i);
            ask("pair", i);
        }
        for (int p = 0; p < 5; p++) {
            ask("person", p);
        }
        ask("fault");
        ask("torn");
        for (int what = 0; what < 4; what++) {
            ask("count", what);
        }
    }

    private void fitting() {
        for (int i = 0; i < 8; i++) {
            ask("fits", i);
        }
        for (int p = 0; p < 4; p++) {
            ask("kinds", p);
        }
    }

    private void now() {
        shown();
        fitting();
        for (int n = (int) Run.call(target, "count", 0) - 1; n > 0; n--) {
            ask("forget", n);
            fitting();
        }
    }

    private void images() {
        for (int k = 0; k < 2; k++) {
            ask("back", k);
            shown();
            fitting();
        }
    }

    private void sheets() {
        for (int k = 0; k < 4; k++) {
            int lane = 0;
            for (int other = 0; other < 3; other++) {
                ask("read", k, other, 0, 1);
                lane = ask("torn") == 3 ? lane : other;
            }
            for (int f = 0; f < 8; f++) {
                ask("read", k, lane, f, 1);
                ask("torn");
                ask("rule", 7);
            }
            for (int i : new int[] {0, 1, 3, 4, 5, 7, 8, 38, 39}) {
                ask("lay", k, i, 0);
            }
        }
    }

    private void tape() {
        ask("count", 2);
        ask("text");
        shown();
    }
}
