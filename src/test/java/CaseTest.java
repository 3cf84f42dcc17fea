/** Promises 26 to 34: the case, a court, what was found, weights by a seed. */
public final class CaseTest {

    public static void main(String[] args) {
        orders();
        next();
        luck();
        mean();
        see();
        forget();
        fits();
        kinds();
        drift();
        Due.finish("CaseTest");
    }

    private static void orders() {
        HalfScales x = Due.of("case 5;");
        Due.is("all ORDERS", x.orders(0), 120);
        Due.is("all may be the lightest", x.orders(1), 31);
        Due.is("all may be the heaviest", x.orders(2), 31);
        for (int i = 0; i < 5; i++) {
            Due.is("first ORDER " + i, x.orders(10 + i), i);
        }
        for (int what : new int[] {-1, 3, 9, 15, Integer.MAX_VALUE, Integer.MIN_VALUE}) {
            Due.is("orders(" + what + ")", x.orders(what), -1);
        }
        x.lighter(4, 0);
        x.lighter(2, 1);
        x.lighter(2, 4);
        // 2 first, 4 ahead of 0, 3 free: 1 and 3 among them
        Due.is("fewer ORDERS", x.orders(0), 15);
        Due.is("lightest", x.orders(1), 4 + 8);
        Due.is("heaviest", x.orders(2), 1 + 2 + 8);
        int[] first = {2, 1, 3, 4, 0};
        for (int i = 0; i < 5; i++) {
            Due.is("then first ORDER " + i, x.orders(10 + i), first[i]);
        }
        HalfScales y = new HalfScales();
        Due.is("of two", y.orders(0), 2);
        Due.is("orders(12) of two", y.orders(12), -1);
        y.lighter(1, 0);
        Due.is("one", y.orders(0), 1);
        Due.is("its lightest", y.orders(1), 2);
        Due.is("its heaviest", y.orders(2), 1);
        y.text();
        Due.is("both again", y.orders(0), 2);
        HalfScales z = Due.of("case 3;lighter 0 2;lighter 1 2;");
        Due.is("two ahead of one", z.orders(0), 2);
        Due.is("lightest of them", z.orders(1), 3);
        Due.is("heaviest of them", z.orders(2), 4);
    }

    private static void next() {
        HalfScales x = Due.of("case 3;");
        Due.is("next(0)", x.next(0), 1);
        Due.is("next(1)", x.next(1), 3);
        x.lighter(0, 1);
        // 012, 021, 201: by 0,2: 2:1; by 1,2: 1:2
        Due.is("the least of two", x.next(0), 2);
        Due.is("left of it", x.next(1), 2);
        x.lighter(0, 2);
        Due.is("then", x.next(0), 12);
        Due.is("left then", x.next(1), 1);
        x.lighter(2, 1);
        Due.is("none is left", x.next(0), -4);
        Due.is("none is left (1)", x.next(1), -4);
        Due.is("next(2)", x.next(2), -1);
        Due.is("next(-1)", x.next(-1), -1);
    }

    private static void luck() {
        HalfScales x = Due.of("thing 2 4;plain;child;sweet;");
        // JUST to the child and the sweet one
        fraction("all are honest", x.luck(0, 1, 0), x.luck(0, 1, 1), 1, 1);
        fraction("all lie", x.luck(10, 1, 0), x.luck(10, 1, 1), 0, 1);
        fraction("by half", x.luck(5, 1, 0), x.luck(5, 1, 1), 1, 2);
        // .2 .8 .8: .128 + .8*.64 + 2*.2*.2*.8 = .128 + .512 + .064
        fraction("by two", x.luck(2, 1, 0), x.luck(2, 1, 1), 88, 125);
        HalfScales two = Due.of("thing 2 2;plain;plain;");
        fraction("more than half of two is two", two.luck(3, 1, 0), two.luck(3, 1, 1), 49, 100);
        HalfScales one = Due.of("thing 2 2;plain;");
        fraction("of one", one.luck(4, 1, 0), one.luck(4, 1, 1), 3, 5);
        HalfScales nobody = new HalfScales();
        fraction("of nobody", nobody.luck(4, 1, 0), nobody.luck(4, 1, 1), 0, 1);
        Due.is("luck(11, 1, 0)", x.luck(11, 1, 0), -1);
        Due.is("luck(-1, 1, 0)", x.luck(-1, 1, 0), -1);
        Due.is("luck(1, 0, 0)", x.luck(1, 0, 0), -1);
        Due.is("luck(1, 2, 0)", x.luck(1, 2, 0), -1);
        Due.is("luck(1, 1, 2)", x.luck(1, 1, 2), -1);
        Due.is("luck(1, 1, -1)", x.luck(1, 1, -1), -1);
    }

    private static void mean() {
        HalfScales x = Due.of("thing 2 4;plain;child;sweet;");
        fraction("all are honest", x.mean(0, 1, 0), x.mean(0, 1, 1), 2, 1);
        fraction("all lie", x.mean(10, 1, 0), x.mean(10, 1, 1), 1, 1);
        fraction("by three", x.mean(3, 1, 0), x.mean(3, 1, 1), 17, 10);
        fraction("by two", x.mean(2, 1, 0), x.mean(2, 1, 1), 9, 5);
        HalfScales nobody = new HalfScales();
        fraction("of nobody", nobody.mean(4, 1, 0), nobody.mean(4, 1, 1), 0, 1);
        Due.is("mean(11, 1, 0)", x.mean(11, 1, 0), -1);
        Due.is("mean(-1, 1, 0)", x.mean(-1, 1, 0), -1);
        Due.is("mean(1, 0, 0)", x.mean(1, 0, 0), -1);
        Due.is("mean(1, 2, 0)", x.mean(1, 2, 0), -1);
        Due.is("mean(1, 1, 2)", x.mean(1, 1, 2), -1);
        Due.is("mean(1, 1, -1)", x.mean(1, 1, -1), -1);
    }

    private static void see() {
        HalfScales x = Due.of("thing 1 1 1;plain;");
        Due.is("see(1, 1, 0)", x.see(1, 1, 0), -1);
        Due.is("see(-1, 1, 0)", x.see(-1, 1, 0), -1);
        Due.is("see(0, 0, 0)", x.see(0, 0, 0), -1);
        Due.is("see(0, 3, 0)", x.see(0, 3, 0), -1);
        Due.is("see(0, 1, 3)", x.see(0, 1, 3), -1);
        Due.is("see(0, 1, -1)", x.see(0, 1, -1), -1);
        for (int i = 1; i <= 6; i++) {
            Due.is("SEEN " + i, x.see(0, 1 + i % 2, i % 3), i);
        }
        Due.is("SEEN 7", x.see(0, 1, 0), -3);
        Due.is("SEEN 7, bad", x.see(0, 1, 3), -1);
        Due.is("SEEN", x.count(0), 6);
    }

    private static void forget() {
        HalfScales x = Due.of("thing 1 3;plain;");
        x.see(0, 1, 2);
        x.see(0, 1, 1);
        Due.is("never", x.fits(0), 0);
        Due.is("forget(3)", x.forget(3), -1);
        Due.is("forget(-1)", x.forget(-1), -1);
        Due.is("forget(2)", x.forget(2), 2);
        Due.is("forget(1)", x.forget(1), 2);
        Due.is("the first is left", x.fits(0), 7);
        Due.is("forget(0)", x.forget(0), 1);
        Due.is("nothing is SEEN", x.count(0), 0);
        Due.is("forget(0) again", x.forget(0), 0);
    }

    private static void fits() {
        HalfScales x = Due.of("thing 1 3 2;plain;dealer;slip 1;");
        Due.is("nothing SEEN, all fit", x.fits(2), 1023);
        x.see(0, 1, 2);
        // 1 : 3 + w, by more than 1: 3 + w - 1 > 1 always
        Due.is("always", x.fits(2), 1023);
        // w : 5, w < 4
        Due.is("CELL 0", x.fits(0), 15);
        x.see(1, 2, 0);
        // dealer: 1 : w/2 within 1: w/2 in 0..2
        Due.is("two SEEN", x.fits(2), 63);
        Due.is("the WEIGHT stays", x.cell(2), 2);
        Due.is("fits(3)", x.fits(3), -1);
        Due.is("fits(-1)", x.fits(-1), -1);
        x.join(0);
        Due.is("the CUT is beyond", x.fits(0), 0);
        x.split(0);
        Due.is("and there again", x.fits(2) == 0 ? 0 : 1, 1);
    }

    private static void kinds() {
        HalfScales x = Due.of("thing 1 2 2;plain;child;");
        Due.is("nothing SEEN, all fit", x.kinds(0), 15);
        x.see(0, 1, 2);
        // plain 1:4, child 2:4, sweet 3:4, dealer 0:2
        Due.is("all", x.kinds(0), 15);
        x.see(0, 2, 1);
        // plain 3:2, child 4:2, sweet 5:2, dealer 1:1
        Due.is("no dealer", x.kinds(0), 7);
        Due.is("of somebody else", x.kinds(1), 15);
        x.teach(0, 3);
        Due.is("all else as it is", x.kinds(1), 0);
        Due.is("a KIND that he is not", x.kinds(0), 7);
        Due.is("he stays what he is", x.person(0), 3);
        Due.is("kinds(2)", x.kinds(2), -1);
        Due.is("kinds(-1)", x.kinds(-1), -1);
        x.join(0);
        Due.is("the CUT is beyond", x.kinds(0), 0);
    }

    private static void drift() {
        HalfScales x = Due.of("thing 3 1 4;plain;child;slip 2;");
        for (int seed : new int[] {0, 1, -1, 77, Integer.MAX_VALUE, Integer.MIN_VALUE}) {
            for (int n : new int[] {1, 2, 60}) {
                long[] want = drifted(seed, n);
                Due.is("drift(" + seed + ", " + n + ", 0)", x.drift(seed, n, 0), want[0]);
                Due.is("drift(" + seed + ", " + n + ", 1)", x.drift(seed, n, 1), want[1]);
            }
        }
        Due.is("by itself", x.rule(7), 8);
        HalfScales y = Due.of("thing 0 0;dealer;plain;slip 9;");
        Due.is("the one CUT, JUST to both", y.drift(5, 1, 0), 2);
        Due.is("to nobody", new HalfScales().drift(5, 60, 0), 0);
        Due.is("drift(1, 0, 0)", x.drift(1, 0, 0), -1);
        Due.is("drift(1, 61, 0)", x.drift(1, 61, 0), -1);
        Due.is("drift(1, -1, 0)", x.drift(1, -1, 0), -1);
        Due.is("drift(1, 1, 2)", x.drift(1, 1, 2), -1);
        Due.is("drift(1, 1, -1)", x.drift(1, 1, -1), -1);
    }

    /** The same by calls that are promised apart: weigh() and just() on an object of its own. */
    private static long[] drifted(int seed, int n) {
        HalfScales y = Due.of("thing 3 1 4;plain;child;slip 2;");
        long at = seed;
        long sum = 0;
        for (int i = 0; i < n; i++) {
            at = at * 1103515245L + 12345L;
            int got = (int) ((at >> 16) & 0x7fff);
            y.weigh(got % 3, got / 8 % 10);
            sum += Integer.bitCount(y.just(1)) + Integer.bitCount(y.just(2));
        }
        return new long[] {sum, y.rule(7)};
    }

    private static void fraction(String of, long top, long bottom, long wantTop, long wantBottom) {
        Due.is(of + " (0)", top, wantTop);
        Due.is(of + " (1)", bottom, wantBottom);
    }
}
