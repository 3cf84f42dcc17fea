/** Promises 17 to 25: what it is worth, where it is cut, fines. */
public final class WorthTest {

    private static final String FOUR = "plain;child;sweet;dealer;";

    public static void main(String[] args) {
        worth();
        finds();
        just();
        middle();
        honest();
        chosen();
        sly();
        halves();
        stop();
        Due.finish("WorthTest");
    }

    private static void worth() {
        HalfScales x = Due.of("thing 5 3 4 0;" + FOUR);
        int[][] want = {{5, 3, 4, 0}, {10, 3, 4, 0}, {11, 4, 4, 0}, {2, 1, 2, 0}};
        for (int p = 0; p < 4; p++) {
            int sum = 0;
            for (int i = 0; i < 4; i++) {
                Due.is("worth(" + p + ", CELL " + i + ")", x.worth(p, 1 << i), want[p][i]);
                sum += want[p][i];
            }
            Due.is("worth(" + p + ", all)", x.worth(p, 15), sum);
            Due.is("worth(" + p + ", none)", x.worth(p, 0), 0);
            Due.is("worth(" + p + ", 5)", x.worth(p, 5), want[p][0] + want[p][2]);
        }
        x.weigh(0, 4);
        Due.is("even and sweet", x.worth(2, 1), 8);
        Due.is("worth(0, 16)", x.worth(0, 16), -1);
        Due.is("worth(0, -1)", x.worth(0, -1), -1);
        Due.is("worth(4, 1)", x.worth(4, 1), -1);
        Due.is("worth(-1, 1)", x.worth(-1, 1), -1);
    }

    private static void finds() {
        HalfScales x = Due.of("thing 3 4 3;plain;dealer;slip 4;");
        Due.is("by just SLIP", x.finds(0, 1), 0);
        Due.is("by just SLIP, to the other", x.finds(0, 2), 0);
        x.set(2, 3);
        Due.is("RIGHT more", x.finds(0, 1), 2);
        Due.is("LEFT more", x.finds(0, 2), 1);
        x.set(2, 0);
        x.weigh(2, 7);
        Due.is("alike", x.finds(0, 2), 0);
        Due.is("alike to a dealer", x.finds(1, 2), 0);
        Due.is("finds(0, 0)", x.finds(0, 0), -1);
        Due.is("finds(0, 3)", x.finds(0, 3), -1);
        Due.is("finds(2, 1)", x.finds(2, 1), -1);
        Due.is("finds(-1, 1)", x.finds(-1, 1), -1);
    }

    private static void just() {
        HalfScales x = Due.of("thing 2 4;" + FOUR + "slip 1;");
        // plain 2:4, child 4:4, sweet 4:4, dealer 1:2
        Due.is("just(1)", x.just(1), 14);
        x.set(2, 0);
        Due.is("just(1) with no SLIP", x.just(1), 6);
        Due.is("just(0)", x.just(0), -1);
        Due.is("just(2)", x.just(2), -1);
        Due.is("just(1) to nobody", new HalfScales().just(1), 0);
    }

    private static void middle() {
        HalfScales x = Due.of("thing 2 2 2 4;plain;child;");
        // plain: 2:8, 4:6, 6:4; child: 4:8, 6:6, 8:4
        Due.is("middle(0)", x.middle(0), 2);
        Due.is("middle(1)", x.middle(1), 1);
        x.set(2, 2);
        Due.is("to two", x.middle(1), 2);
        Due.is("the CUT of it", x.middle(0), 2);
        x.set(2, 9);
        Due.is("of several the first", x.middle(0), 1);
        Due.is("middle(2)", x.middle(2), -1);
        Due.is("middle(-1)", x.middle(-1), -1);
        HalfScales y = Due.of("thing 1 1 1;");
        Due.is("of nobody", y.middle(0), 1);
        Due.is("to nobody", y.middle(1), 0);
    }

    private static void honest() {
        HalfScales x = Due.of("thing 1 4 2 3;plain;child;");
        // plain: 1:9, 5:5, 7:3; child: 2:9, 6:5, 8:3
        Due.is("honest(0)", x.honest(0), 2);
        Due.is("honest(1)", x.honest(1), 2);
        HalfScales y = Due.of("thing 2 0 2;plain;");
        Due.is("of several the first", y.honest(0), 1);
        HalfScales z = Due.of("thing 0 0 0 1;plain;");
        Due.is("all alike", z.honest(0), 1);
        y.set(2, 9);
        y.weigh(0, 0);
        y.weigh(1, 9);
        Due.is("SLIP is nothing to it", y.honest(0), 2);
        Due.is("honest(1) of one", y.honest(1), -1);
        Due.is("honest(-1)", y.honest(-1), -1);
    }

    private static void chosen() {
        HalfScales x = Due.of("thing 3 1 2;plain;child;dealer;");
        // plain cuts 3:3 at 1; child 6:3, takes LEFT
        Due.is("the first one's", x.chosen(0, 1, 0), 3);
        Due.is("the second one's", x.chosen(0, 1, 1), 6);
        Due.is("no envy", x.chosen(0, 1, 2), 0);
        // child cuts 6:3 or 7:2, at 1; plain 3:3, takes LEFT
        Due.is("the child gets", x.chosen(1, 0, 0), 3);
        Due.is("plain gets", x.chosen(1, 0, 1), 3);
        Due.is("envy", x.chosen(1, 0, 2), 1);
        HalfScales y = Due.of("thing 1 5;dealer;plain;");
        Due.is("RIGHT is taken", y.chosen(0, 1, 1), 5);
        Due.is("LEFT is left", y.chosen(0, 1, 0), 0);
        Due.is("alike people", x.chosen(0, 0, 0), -1);
        Due.is("chosen(0, 3, 0)", x.chosen(0, 3, 0), -1);
        Due.is("chosen(3, 0, 0)", x.chosen(3, 0, 0), -1);
        Due.is("chosen(0, -1, 0)", x.chosen(0, -1, 0), -1);
        Due.is("chosen(0, 1, 3)", x.chosen(0, 1, 3), -1);
        Due.is("chosen(0, 1, -1)", x.chosen(0, 1, -1), -1);
    }

    private static void sly() {
        HalfScales x = Due.of("thing 4 1 1 2 3;plain;child;");
        // child: 8:7, 9:6, 10:5, 12:3: takes LEFT; plain: 7, 6, 5, 3
        Due.is("sly(0, 1, 0)", x.sly(0, 1, 0), 1);
        Due.is("sly(0, 1, 1)", x.sly(0, 1, 1), 7);
        // plain: 4:7 RIGHT, 5:6 RIGHT, 6:5 LEFT, 8:3 LEFT; child then 8, 9, 5, 3
        Due.is("sly(1, 0, 0)", x.sly(1, 0, 0), 2);
        Due.is("sly(1, 0, 1)", x.sly(1, 0, 1), 9);
        HalfScales y = Due.of("thing 1 0 0 1;plain;plain;");
        Due.is("of several the first", y.sly(0, 1, 0), 1);
        HalfScales z = Due.of("thing 1 3 2 5;plain;plain;");
        // 1:10, 4:7, 6:5: 1, 4, 5
        Due.is("the last is most", z.sly(0, 1, 0), 3);
        HalfScales v = Due.of("thing 1 4 6 4;plain;plain;");
        // 1:14, 5:10, 11:4: 1, 5, 4
        Due.is("the last is more than the first alone", v.sly(0, 1, 0), 2);
        Due.is("alike people", y.sly(1, 1, 0), -1);
        Due.is("sly(2, 0, 0)", y.sly(2, 0, 0), -1);
        Due.is("sly(0, 2, 0)", y.sly(0, 2, 0), -1);
        Due.is("sly(0, 1, 2)", y.sly(0, 1, 2), -1);
        Due.is("sly(0, 1, -1)", y.sly(0, 1, -1), -1);
    }

    private static void halves() {
        HalfScales x = Due.of("thing 1 2 3 4;plain;child;");
        // plain 5:5 by 1,4 (2 CUTS; sets 9 and 6); child 2,2,3,4: none of 11
        Due.is("halves(1, 0)", x.halves(1, 0), 2);
        Due.is("the least set", x.halves(1, 1), 6);
        Due.is("halves(2, 0)", x.halves(2, 0), -4);
        x.set(2, 1);
        // child 5.5: 2+3 : 2+4, 2+4 : 2+3, 7:4, 4:7; by one CUT {0,1,2} 7:4 no, {0,1} 4:7 no; 2 CUTS: {1,2} 5:6
        Due.is("halves(2, 0) with SLIP", x.halves(2, 0), 2);
        Due.is("its set", x.halves(2, 1), 6);
        Due.is("to both", x.halves(3, 1), 6);
        Due.is("to nobody no CUT", x.halves(0, 0), 0);
        Due.is("to nobody the least set", x.halves(0, 1), 0);
        Due.is("halves(4, 0)", x.halves(4, 0), -1);
        Due.is("halves(-1, 0)", x.halves(-1, 0), -1);
        Due.is("halves(1, 2)", x.halves(1, 2), -1);
        Due.is("halves(1, -1)", x.halves(1, -1), -1);
        HalfScales y = Due.of("thing 0 0 0;plain;");
        Due.is("all or nothing, worth nothing", y.halves(1, 0), 0);
        HalfScales z = Due.of("thing 1 1 1 1 1 1 1 1;plain;");
        Due.is("one CUT of eight", z.halves(1, 0), 1);
        Due.is("its LEFT", z.halves(1, 1), 15);
        HalfScales all = Due.of("thing 9 1 9 1 9 1 9 1;sweet;slip 0;");
        // 19,2,10,2,10,2,10,2: 57 is odd
        Due.is("odd in all", all.halves(1, 0), -4);
    }

    private static void stop() {
        HalfScales x = Due.of("fine 99;");
        Due.is("stop(0, 0)", x.stop(0, 0), 7);
        Due.is("stop(0, 1)", x.stop(0, 1), 1);
        // 99, 50+25, 25+50: of several the fewest
        Due.is("stop(25, 0)", x.stop(25, 0), 1);
        Due.is("stop(25, 1)", x.stop(25, 1), 75);
        Due.is("stop(49, 0)", x.stop(49, 0), 0);
        Due.is("stop(48, 0)", x.stop(48, 0), 1);
        Due.is("stop(48, 1)", x.stop(48, 1), 98);
        Due.is("stop(99, 0)", x.stop(99, 0), 0);
        Due.is("stop(99, 1)", x.stop(99, 1), 99);
        Due.is("stop(100, 0)", x.stop(100, 0), -1);
        Due.is("stop(-1, 0)", x.stop(-1, 0), -1);
        Due.is("stop(1, 2)", x.stop(1, 2), -1);
        Due.is("stop(1, -1)", x.stop(1, -1), -1);
        Due.is("FINE stays", x.rule(3), 99);
        x.set(3, 0);
        Due.is("no FINE, none", x.stop(0, 0), 0);
        Due.is("no FINE, nothing", x.stop(5, 1), 0);
    }
}
