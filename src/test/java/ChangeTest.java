/** Promises 10 to 16: what is changed. */
public final class ChangeTest {

    public static void main(String[] args) {
        weigh();
        split();
        join();
        teach();
        set();
        appeal();
        lighter();
        Due.finish("ChangeTest");
    }

    private static void weigh() {
        HalfScales x = Due.of("thing 3 0 9;");
        Due.is("weigh(0, 9)", x.weigh(0, 9), 3);
        Due.is("weigh(2, 0)", x.weigh(2, 0), 9);
        Due.is("weigh(2, 5)", x.weigh(2, 5), 0);
        Due.is("weigh(3, 1)", x.weigh(3, 1), -1);
        Due.is("weigh(-1, 1)", x.weigh(-1, 1), -1);
        Due.is("weigh(1, 10)", x.weigh(1, 10), -1);
        Due.is("weigh(1, -1)", x.weigh(1, -1), -1);
        cells(x, 9, 0, 5);
    }

    private static void split() {
        HalfScales x = Due.of("thing 9 4 1 0;");
        Due.is("split(4)", x.split(4), -1);
        Due.is("split(-1)", x.split(-1), -1);
        Due.is("split(0)", x.split(0), 5);
        cells(x, 5, 4, 4, 1, 0);
        Due.is("split(3)", x.split(3), 6);
        cells(x, 5, 4, 4, 1, 0, 0);
        Due.is("split(5)", x.split(5), 7);
        Due.is("split(2)", x.split(2), 8);
        cells(x, 5, 4, 2, 2, 1, 0, 0, 0);
        Due.is("split(0) of 8", x.split(0), -3);
        Due.is("split(8) of 8", x.split(8), -1);
        cells(x, 5, 4, 2, 2, 1, 0, 0, 0);
    }

    private static void join() {
        HalfScales x = Due.of("thing 1 2 3 9 5;");
        Due.is("join(4)", x.join(4), -1);
        Due.is("join(5)", x.join(5), -1);
        Due.is("join(-1)", x.join(-1), -1);
        Due.is("join(max)", x.join(Integer.MAX_VALUE), -1);
        Due.is("join(3)", x.join(3), 4);
        cells(x, 1, 2, 3, 9);
        Due.is("join(0)", x.join(0), 3);
        cells(x, 3, 3, 9);
        Due.is("join(0) again", x.join(0), 2);
        cells(x, 6, 9);
        Due.is("join(0) of 2", x.join(0), -2);
        Due.is("join(1) of 2", x.join(1), -1);
        cells(x, 6, 9);
        HalfScales y = Due.of("thing 4 5 1;");
        Due.is("join to just 9", y.join(0), 2);
        cells(y, 9, 1);
    }

    private static void teach() {
        HalfScales x = Due.of("plain;dealer;");
        Due.is("teach(0, 2)", x.teach(0, 2), 0);
        Due.is("teach(0, 3)", x.teach(0, 3), 2);
        Due.is("teach(1, 0)", x.teach(1, 0), 3);
        Due.is("teach(2, 0)", x.teach(2, 0), -1);
        Due.is("teach(-1, 0)", x.teach(-1, 0), -1);
        Due.is("teach(0, 4)", x.teach(0, 4), -1);
        Due.is("teach(0, -1)", x.teach(0, -1), -1);
        Due.is("person(0)", x.person(0), 3);
        Due.is("person(1)", x.person(1), 0);
    }

    private static void set() {
        HalfScales x = Due.of("slip 4;fine 50;");
        Due.is("set(2, 9)", x.set(2, 9), 4);
        Due.is("set(2, 0)", x.set(2, 0), 9);
        Due.is("set(2, 10)", x.set(2, 10), -1);
        Due.is("set(2, -1)", x.set(2, -1), -1);
        Due.is("set(3, 99)", x.set(3, 99), 50);
        Due.is("set(3, 0)", x.set(3, 0), 99);
        Due.is("set(3, 100)", x.set(3, 100), -1);
        Due.is("set(3, -1)", x.set(3, -1), -1);
        for (int what : new int[] {-1, 0, 1, 4, 5, 6, 7}) {
            Due.is("set(" + what + ", 2)", x.set(what, 2), -1);
        }
        Due.is("SLIP", x.rule(2), 0);
        Due.is("FINE", x.rule(3), 0);
    }

    private static void appeal() {
        HalfScales x = Due.of("fine 99;");
        int[] fines = {50, 25, 13, 7, 4, 2, 1};
        for (int i = 0; i < fines.length; i++) {
            Due.is("appeal() " + (i + 1), x.appeal(), fines[i]);
            Due.is("FINE", x.rule(3), fines[i]);
            Due.is("APPEALS", x.rule(4), i + 1);
        }
        Due.is("appeal() of 1", x.appeal(), -2);
        Due.is("APPEALS stay", x.rule(4), 7);
        x.set(3, 0);
        Due.is("appeal() of 0", x.appeal(), -2);
        Due.is("set() leaves APPEALS", x.rule(4), 7);
    }

    private static void lighter() {
        HalfScales x = Due.of("case 3;");
        Due.is("lighter(0, 0)", x.lighter(0, 0), -1);
        Due.is("lighter(0, 3)", x.lighter(0, 3), -1);
        Due.is("lighter(3, 0)", x.lighter(3, 0), -1);
        Due.is("lighter(-1, 0)", x.lighter(-1, 0), -1);
        Due.is("lighter(0, -1)", x.lighter(0, -1), -1);
        Due.is("lighter(2, 1)", x.lighter(2, 1), 1);
        Due.is("lighter(1, 2)", x.lighter(1, 2), -2);
        Due.is("lighter(1, 0)", x.lighter(1, 0), 2);
        Due.is("lighter(0, 2)", x.lighter(0, 2), -2);
        Due.is("lighter(2, 0)", x.lighter(2, 0), 3);
        Due.is("told again", x.lighter(2, 0), 4);
        Due.is("pair(0)", x.pair(0), 21);
        Due.is("pair(1)", x.pair(1), 10);
        Due.is("pair(2)", x.pair(2), 20);
        Due.is("pair(3)", x.pair(3), 20);
        for (int i = 5; i <= 8; i++) {
            Due.is("the pair " + i, x.lighter(2, 1), i);
        }
        Due.is("the 9th", x.lighter(2, 1), -3);
        Due.is("the 9th, that can not be", x.lighter(1, 2), -3);
        Due.is("the 9th, bad", x.lighter(1, 1), -1);
        Due.is("pairs", x.rule(6), 8);
    }

    private static void cells(HalfScales x, int... weights) {
        Due.is("CELLS", x.rule(0), weights.length);
        for (int i = 0; i < weights.length; i++) {
            Due.is("cell(" + i + ")", x.cell(i), weights[i]);
        }
        Due.is("cell beyond", x.cell(weights.length), -1);
    }
}
