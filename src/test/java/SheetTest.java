/** Promises 35 to 41: images, sheets, what is counted. */
public final class SheetTest {

    public static void main(String[] args) {
        images();
        imagesStay();
        sheet();
        lay();
        read();
        readStops();
        readRefused();
        lanes();
        torn();
        count();
        Due.finish("SheetTest");
    }

    private static void images() {
        HalfScales x = Due.of("thing 1 2 3;plain;child;slip 1;fine 50;case 4;lighter 0 1;");
        x.see(0, 2, 1);
        x.appeal();
        Due.is("back(0)", x.back(0), -2);
        Due.is("keep(0)", x.keep(0), 0);
        Due.is("keep(2)", x.keep(2), -1);
        Due.is("keep(-1)", x.keep(-1), -1);
        Due.is("back(2)", x.back(2), -1);
        Due.is("back(-1)", x.back(-1), -1);
        Due.is("back(1)", x.back(1), -2);
        x.split(2);
        x.weigh(0, 9);
        x.teach(0, 3);
        x.teach(1, 2);
        x.set(2, 5);
        x.appeal();
        x.lighter(2, 3);
        x.see(1, 1, 0);
        Due.is("keep(1)", x.keep(1), 0);
        x.forget(0);
        Due.is("back(0)", x.back(0), 3);
        state(x, new int[] {3, 2, 1, 25, 1, 4, 1, 6}, new int[] {1, 2, 3}, 0, 1, 1);
        Due.is("back(1)", x.back(1), 4);
        state(x, new int[] {4, 2, 5, 13, 2, 4, 2, 14}, new int[] {9, 2, 2, 1}, 3, 2, 2);
        Due.is("pair(1)", x.pair(1), 23);
        Due.is("keep(1) again", x.keep(1), 1);
        Due.is("IMAGES", x.count(1), 2);
    }

    private static void state(HalfScales x, int[] rules, int[] cells, int first, int second, int seen) {
        for (int what = 0; what < rules.length; what++) {
            Due.is("image: rule(" + what + ")", x.rule(what), rules[what]);
        }
        for (int i = 0; i < cells.length; i++) {
            Due.is("image: cell(" + i + ")", x.cell(i), cells[i]);
        }
        Due.is("image: person(0)", x.person(0), first);
        Due.is("image: person(1)", x.person(1), second);
        Due.is("image: SEEN", x.count(0), seen);
    }

    private static void imagesStay() {
        HalfScales x = Due.of("thing 1 2 3;");
        x.keep(0);
        x.weigh(0, 5);
        x.back(0);
        x.weigh(1, 7);
        Due.is("there for a second time", x.back(0), 3);
        Due.is("as it was kept", x.cell(1), 2);
        x.weigh(0, 8);
        Due.is("kept anew", x.keep(0), 1);
        x.weigh(0, 0);
        x.back(0);
        Due.is("the newer one", x.cell(0), 8);
        x.sheet(0, 2, 3);
        x.lay(0, 0, 1);
        x.feed('p');
        x.back(0);
        Due.is("SHEETS are none of it", x.count(3), 3);
        Due.is("THE TAPE is none of it", x.count(2), 1);
    }

    private static void sheet() {
        HalfScales x = new HalfScales();
        Due.is("sheet(0, 0, 40)", x.sheet(0, 0, 40), 1);
        Due.is("sheet(0, 0, 41)", x.sheet(0, 0, 41), -1);
        Due.is("sheet(0, 0, -1)", x.sheet(0, 0, -1), -14);
        Due.is("sheet(0, 2, min)", x.sheet(0, 2, Integer.MIN_VALUE), -14);
        Due.is("sheet(4, 0, 1)", x.sheet(4, 0, 1), -1);
        Due.is("sheet(-1, 0, 1)", x.sheet(-1, 0, 1), -1);
        Due.is("sheet(0, 3, 1)", x.sheet(0, 3, 1), -1);
        Due.is("sheet(0, -1, 1)", x.sheet(0, -1, 1), -1);
        Due.is("sheet(4, 0, -1)", x.sheet(4, 0, -1), -1);
        Due.is("sheet(0, 3, -1)", x.sheet(0, 3, -1), -1);
        Due.is("it is as it was", x.count(3), 40);
        Due.is("its last CELL", x.lay(0, 39, 1), 1);
        Due.is("sheet(3, 2, 0)", x.sheet(3, 2, 0), 1);
        Due.is("with no CELL", x.lay(3, 0, 1), -12);
        x.lay(0, 1, 9);
        Due.is("read", x.read(0, 0, 0, 1), 1);
        Due.is("laid", x.cell(0), 9);
        x.lay(0, 0, 1);
        Due.is("a new row", x.sheet(0, 0, 2), 1);
        Due.is("read again", x.read(0, 0, 0, 1), 1);
        Due.is("is of 0", x.cell(0), 0);
        Due.is("a new row, longer", x.sheet(0, 0, 40), 1);
        Due.is("read its last", x.read(0, 0, 38, 1), 1);
        Due.is("is of 0 too", x.cell(0), 0);
    }

    private static void lay() {
        HalfScales x = new HalfScales();
        Due.is("lay(-1, 0, 0)", x.lay(-1, 0, 0), -1);
        Due.is("lay(4, 0, 0)", x.lay(4, 0, 0), -1);
        Due.is("nothing there", x.lay(2, -1, 0), -11);
        x.sheet(2, 1, 3);
        Due.is("lay(2, 2, 5)", x.lay(2, 2, 5), 1);
        Due.is("lay(2, 3, 5)", x.lay(2, 3, 5), -12);
        Due.is("lay(2, -1, 5)", x.lay(2, -1, 5), -12);
        Due.is("lay(2, max, 5)", x.lay(2, Integer.MAX_VALUE, 5), -12);
    }

    private static void read() {
        HalfScales x = Due.of("thing 1 1 1;");
        x.sheet(1, 2, 6);
        lay(x, 1, 2, 7, 0, 4, 2, 9);
        Due.is("read(1, 2, 0, 3)", x.read(1, 2, 0, 3), 3);
        Due.is("cell(0)", x.cell(0), 4);
        Due.is("cell(1)", x.cell(1), 1);
        Due.is("one behind another", x.cell(2), 9);
        Due.is("from CELL 1 on", x.read(1, 2, 1, 1), -20);
        Due.is("read(1, 2, 2, 1)", x.read(1, 2, 2, 1), 1);
        Due.is("n 0", x.read(1, 2, 0, 0), 0);
        Due.is("torn()", x.torn(), 0);
        Due.is("read(4, 0, 0, 1)", x.read(4, 0, 0, 1), -1);
        Due.is("read(-1, 0, 0, 1)", x.read(-1, 0, 0, 1), -1);
        Due.is("read(0, 3, 0, 1)", x.read(0, 3, 0, 1), -1);
        Due.is("read(0, -1, 0, 1)", x.read(0, -1, 0, 1), -1);
        Due.is("read(0, 0, 0, -1)", x.read(0, 0, 0, -1), -1);
        Due.is("read(0, 0, 0, 21)", x.read(0, 0, 0, 21), -1);
        x.sheet(0, 0, 40);
        Due.is("twenty", x.read(0, 0, 0, 20), 20);
        Due.is("torn() of twenty", x.torn(), 0);
        Due.is("f 1, the 20th is not whole", x.read(0, 0, 1, 20), 19);
        Due.is("its torn()", x.torn(), 2);
    }

    private static void readStops() {
        HalfScales x = Due.of("thing 1 1 1;");
        x.sheet(0, 0, 5);
        lay(x, 0, 0, 5, 1, 6, 2);
        Due.is("half of the third", x.read(0, 0, 0, 3), 2);
        Due.is("its FAULT", x.torn(), 2);
        Due.is("came 0", x.cell(0), 5);
        Due.is("came 1", x.cell(1), 6);
        Due.is("not came", x.cell(2), 1);
        for (int f : new int[] {-1, -2, 5, 40, Integer.MAX_VALUE, Integer.MAX_VALUE - 1, Integer.MIN_VALUE}) {
            Due.is("read from " + f, x.read(0, 0, f, 2), 0);
            Due.is("torn()", x.torn(), 2);
        }
        Due.is("another lane", x.read(0, 2, 0, 1), 0);
        Due.is("CAST", x.torn(), 3);
        Due.is("another lane, nowhere", x.read(0, 1, -1, 1), 0);
        Due.is("CAST too", x.torn(), 3);
        Due.is("nothing", x.read(3, 2, -1, 1), 0);
        Due.is("NULL", x.torn(), 1);
    }

    private static void readRefused() {
        HalfScales x = Due.of("thing 1 1 1;");
        x.sheet(0, 2, 7);
        lay(x, 0, 0, 5, 3, 1, 0, 10);
        Due.is("no such CELL", x.read(0, 2, 0, 3), -21);
        Due.is("none came", x.cell(0), 1);
        x.lay(0, 2, 2);
        Due.is("no such WEIGHT", x.read(0, 2, 0, 3), -22);
        Due.is("none came", x.cell(0), 1);
        Due.is("ahead of the machine", x.read(0, 2, 0, 4), -22);
        x.lay(0, 5, 9);
        Due.is("the machine", x.read(0, 2, 0, 4), 3);
        Due.is("its FAULT", x.torn(), 2);
        x.lay(0, 0, -1);
        Due.is("below 0", x.read(0, 2, 0, 1), -20);
        Due.is("the FAULT of the latest that came to an end", x.torn(), 2);
        Due.is("BAD", x.read(0, 2, 0, 21), -1);
        Due.is("the same FAULT", x.torn(), 2);
        x.lay(0, 0, 0);
        Due.is("one that came to an end", x.read(0, 2, 0, 1), 1);
        Due.is("no FAULT", x.torn(), 0);
    }

    private static void lanes() {
        HalfScales x = new HalfScales();
        int[] wide = {256 + 7, 65536 + 7, 7};
        for (int lane = 0; lane < 3; lane++) {
            x.weigh(0, 0);
            x.sheet(lane, lane, 2);
            x.lay(lane, 1, wide[lane]);
            Due.is("the lowest bits of lane " + lane, x.read(lane, lane, 0, 1), 1);
            Due.is("are its WEIGHT", x.cell(0), 7);
        }
        x.lay(0, 1, 128 + 7);
        Due.is("a BYTE below 0", x.read(0, 0, 0, 1), -20);
        x.lay(1, 1, 256 + 7);
        Due.is("a SHORT is longer", x.read(1, 1, 0, 1), -20);
        x.lay(1, 1, 32768 + 7);
        Due.is("a SHORT below 0", x.read(1, 1, 0, 1), -20);
        x.lay(2, 1, 65536 + 7);
        Due.is("an INT is longer", x.read(2, 2, 0, 1), -20);
    }

    private static void torn() {
        HalfScales x = new HalfScales();
        Due.is("at first", x.torn(), 0);
        x.read(0, 0, 0, 1);
        Due.is("NULL", x.torn(), 1);
        Due.is("asked again", x.torn(), 1);
        x.lay(1, 0, 0);
        x.sheet(0, 0, -1);
        Due.is("of read() alone", x.torn(), 1);
        x.sheet(0, 0, 2);
        x.lay(0, 9, 9);
        Due.is("still", x.torn(), 1);
        x.read(0, 0, 0, 1);
        Due.is("none", x.torn(), 0);
    }

    private static void count() {
        HalfScales x = Due.of("plain;");
        x.see(0, 1, 0);
        x.see(0, 1, 1);
        x.keep(1);
        x.feed('a');
        x.feed('b');
        x.feed('c');
        x.sheet(1, 0, 9);
        Due.is("SEEN", x.count(0), 2);
        Due.is("IMAGES", x.count(1), 1);
        Due.is("bytes", x.count(2), 3);
        Due.is("SHEET 0 is nothing", x.count(3), -4);
        x.sheet(0, 1, 0);
        Due.is("SHEET 0 with no CELL", x.count(3), 0);
        x.sheet(0, 1, 12);
        Due.is("CELLS of SHEET 0", x.count(3), 12);
        Due.is("count(4)", x.count(4), -1);
        Due.is("count(-1)", x.count(-1), -1);
    }

    private static void lay(HalfScales x, int k, int... row) {
        for (int i = 0; i < row.length; i++) {
            Due.is("lay(" + k + ", " + i + ")", x.lay(k, i, row[i]), 1);
        }
    }
}
