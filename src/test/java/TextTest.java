/** Promises 1 to 9: a new object, THE TAPE, what a text tells, its FAULTS. */
public final class TextTest {

    public static void main(String[] args) {
        newObject();
        tape();
        textTells();
        textReplaces();
        tokens();
        misplaced();
        bounds();
        secondTimes();
        tooMany();
        behindAll();
        faultOrder();
        faultsChangeNothing();
        rules();
        Due.finish("TextTest");
    }

    private static void newObject() {
        HalfScales x = new HalfScales();
        long[] want = {2, 0, 0, 0, 0, 2, 0, 2};
        for (int what = 0; what < want.length; what++) {
            Due.is("new: rule(" + what + ")", x.rule(what), want[what]);
        }
        Due.is("new: cell(0)", x.cell(0), 1);
        Due.is("new: cell(1)", x.cell(1), 1);
        Due.is("new: cell(2)", x.cell(2), -1);
        Due.is("new: person(0)", x.person(0), -1);
        Due.is("new: pair(0)", x.pair(0), -1);
        Due.is("new: fault()", x.fault(), 0);
        Due.is("new: torn()", x.torn(), 0);
        Due.is("new: SEEN", x.count(0), 0);
        Due.is("new: IMAGES", x.count(1), 0);
        Due.is("new: bytes", x.count(2), 0);
        Due.is("new: SHEET 0", x.count(3), -4);
        for (int k = 0; k < 4; k++) {
            Due.is("new: lay on SHEET " + k, x.lay(k, 0, 0), -11);
        }
        Due.is("new: back(0)", x.back(0), -2);
        Due.is("new: back(1)", x.back(1), -2);
    }

    private static void tape() {
        HalfScales x = new HalfScales();
        Due.is("feed(-1)", x.feed(-1), -1);
        Due.is("feed(128)", x.feed(128), -1);
        Due.is("feed(0)", x.feed(0), 1);
        Due.is("feed(127)", x.feed(127), 2);
        Due.is("end(3) of 2", x.end(3), -1);
        Due.is("end(-1)", x.end(-1), -1);
        Due.is("end(2) of 2", x.end(2), 2);
        Due.is("end(1) of 2", x.end(1), 2);
        Due.is("end(0) of 1", x.end(0), 1);
        Due.is("end(0) of 0", x.end(0), 0);
        for (int i = 1; i <= 160; i++) {
            Due.is("feed " + i, x.feed(' '), i);
        }
        Due.is("feed 161", x.feed(' '), -3);
        Due.is("feed 161, bad", x.feed(200), -1);
        Due.is("bytes", x.count(2), 160);
        Due.is("a text of blanks", x.text(), 0);
        Due.is("bytes behind text()", x.count(2), 0);
        HalfScales y = new HalfScales();
        for (char c : "plain;?".toCharArray()) {
            y.feed(c);
        }
        Due.is("end cuts", y.end(6), 7);
        Due.is("what is left is told", y.text(), 1);
        HalfScales z = new HalfScales();
        for (int i = 0; i < 159; i++) {
            z.feed(' ');
        }
        z.feed('a');
        Due.is("FAULT at the last place", z.text(), -169);
        Due.is("its number", z.fault(), 2);
    }

    private static void textTells() {
        HalfScales x = new HalfScales();
        String text = "thing 9 0 07 1;sweet;dealer ; plain;child;slip 09;fine 99;case 5;lighter 4 0;lighter 0 3;";
        Due.is(text, Due.told(x, text), 10);
        long[] want = {4, 4, 9, 99, 0, 5, 2, 17};
        for (int what = 0; what < want.length; what++) {
            Due.is("told: rule(" + what + ")", x.rule(what), want[what]);
        }
        int[] weights = {9, 0, 7, 1, -1};
        for (int i = 0; i < weights.length; i++) {
            Due.is("told: cell(" + i + ")", x.cell(i), weights[i]);
        }
        int[] kinds = {2, 3, 0, 1, -1};
        for (int p = 0; p < kinds.length; p++) {
            Due.is("told: person(" + p + ")", x.person(p), kinds[p]);
        }
        Due.is("pair(0)", x.pair(0), 40);
        Due.is("pair(1)", x.pair(1), 3);
        Due.is("pair(2)", x.pair(2), -1);
        Due.is("pair(-1)", x.pair(-1), -1);
        Due.is("cell(-1)", x.cell(-1), -1);
        Due.is("person(-1)", x.person(-1), -1);
    }

    private static void textReplaces() {
        HalfScales x = Due.of("thing 4 4 4;plain;slip 3;fine 8;case 3;lighter 0 2;");
        x.appeal();
        x.see(0, 1, 0);
        x.keep(0);
        x.keep(1);
        x.sheet(0, 0, 7);
        x.read(1, 0, 0, 1);
        Due.is("APPEALS", x.rule(4), 1);
        Due.is("an empty text", x.text(), 0);
        long[] want = {2, 0, 0, 0, 0, 2, 0, 2};
        for (int what = 0; what < want.length; what++) {
            Due.is("empty text: rule(" + what + ")", x.rule(what), want[what]);
        }
        Due.is("nothing is SEEN", x.count(0), 0);
        Due.is("IMAGES are gone", x.count(1), 0);
        Due.is("none to go back to", x.back(0), -2);
        Due.is("SHEETS stay", x.count(3), 7);
        Due.is("torn() stays", x.torn(), 1);
    }

    private static void tokens() {
        fault("", 0, 0);
        fault("   plain   ;   ", 1, 0);
        fault("slip9;fine10;", 2, 0);
        fault("slip 009;", -15, 1);
        fault("fine 100;", -15, 1);
        fault("?", -10, 1);
        fault("  ?", -12, 1);
        fault("Plain;", -10, 1);
        fault("plain:", -15, 1);
        fault("plain\n;", -15, 1);
        fault("plain;123", -16, 1);
        fault("thing 1 1 ,;", -20, 1);
        fault("thing 1 1111;", -18, 1);
        fault("thing 1 1 1 1 1 1 1 1 111;", -32, 1);
        fault("lighter 0 222;", -20, 1);
        fault("slip ?;", -15, 1);
        fault("slip 1?", -16, 1);
    }

    private static void misplaced() {
        fault("pla in;", -10, 2);
        fault("plainplain;", -10, 2);
        fault("plai;", -10, 2);
        fault("plains;", -10, 2);
        fault("xlain;", -10, 2);
        fault("plainz;", -10, 2);
        fault("aplain;", -10, 2);
        fault(";", -10, 2);
        fault("plain;;", -16, 2);
        fault("1;", -10, 2);
        fault("plain", -15, 2);
        fault("plain  ", -17, 2);
        fault("plain 1;", -16, 2);
        fault("plain child;", -16, 2);
        fault("thing", -15, 2);
        fault("thing;", -15, 2);
        fault("thing 1", -17, 2);
        fault("thing 1;", -17, 2);
        fault("thing 1 1", -19, 2);
        fault("thing 1 1 plain;", -20, 2);
        fault("thing 1 1 1 1 1 1 1 1", -31, 2);
        fault("thing 1 1 1 1 1 1 1 1 plain;", -32, 2);
        fault("slip;", -14, 2);
        fault("slip 1 1;", -17, 2);
        fault("fine plain;", -15, 2);
        fault("case ;", -15, 2);
        fault("lighter 1;", -19, 2);
        fault("lighter 1 0", -21, 2);
        fault("lighter 1 0 2;", -22, 2);
    }

    private static void bounds() {
        fault("thing 9 9;", 1, 0);
        fault("thing 10 1;", -16, 3);
        fault("thing 1 10;", -18, 3);
        fault("thing 1 1 99;", -20, 3);
        fault("slip 10;", -15, 3);
        fault("fine 99;", 1, 0);
        fault("fine 00;", 1, 0);
        fault("case 1;", -15, 3);
        fault("case 2;", 1, 0);
        fault("case 5;", 1, 0);
        fault("case 6;", -15, 3);
        fault("lighter 5 0;", -18, 3);
        fault("lighter 0 5;", -20, 3);
        fault("lighter 1 1;", -20, 3);
        fault("lighter 1 01;", -20, 3);
    }

    private static void secondTimes() {
        fault("thing 1 1;thing 1 1;", -20, 4);
        fault("slip 1; slip 1;", -18, 4);
        fault("fine 1;plain;fine 1;", -23, 4);
        fault("case 2;case 2;", -17, 4);
        fault("case 2;case", -17, 4);
        fault("thing 1 1;slip 1;thing 1 1;", -27, 4);
        fault("slip 1;fine 1;case 2;slip 1;", -31, 4);
    }

    private static void tooMany() {
        fault("plain;child;sweet;dealer;", 4, 0);
        fault("plain;child;sweet;dealer;plain;", -35, 5);
        fault("plain;plain;plain;plain; dealer", -35, 5);
        fault("thing 1 2 3 4 5 6 7 8;", 1, 0);
        fault("thing 1 2 3 4 5 6 7 8 9;", -32, 5);
        fault("thing 1 2 3 4 5 6 7 8 10;", -32, 3);
        String eight = "lighter 0 1;".repeat(8);
        fault(eight, 8, 0);
        fault(eight + "lighter 0 1;", -106, 5);
    }

    private static void behindAll() {
        fault("lighter 0 1;", 1, 0);
        fault("lighter 0 2;", -22, 6);
        fault("lighter 2 0; ", -23, 6);
        fault("lighter 0 2;case 3;", 2, 0);
        fault("case 4;lighter 4 0;", -29, 6);
        fault("lighter 0 1;lighter 1 0;", -34, 7);
        fault("case 5;lighter 0 1;lighter 1 4;lighter 4 0;", -53, 7);
        fault("case 5;lighter 0 1;lighter 1 4;lighter 0 4;", 4, 0);
        fault("lighter 0 1;lighter 1 0;lighter 2 0;", -46, 6);
    }

    private static void faultOrder() {
        fault("slip 10?", -15, 3);
        fault("slip x?", -15, 2);
        fault("thing 1 1;thing?", -20, 4);
        fault("plain;plain;plain;plain;plain?", -34, 5);
        fault("lighter 1 1?", -20, 3);
        fault("lighter 0 2;?", -22, 1);
        fault("slip 10;slip 1;", -15, 3);
    }

    private static void faultsChangeNothing() {
        HalfScales x = Due.of("thing 4 4 4;plain;slip 3;fine 8;case 3;lighter 0 2;");
        x.appeal();
        x.see(0, 1, 2);
        x.keep(1);
        Due.is("a FAULT", Due.told(x, "thing 1 1;child;slip 1;fine 1;case 2;?"), -47);
        long[] want = {3, 1, 3, 4, 1, 3, 1, 12};
        for (int what = 0; what < want.length; what++) {
            Due.is("behind a FAULT: rule(" + what + ")", x.rule(what), want[what]);
        }
        Due.is("behind a FAULT: person(0)", x.person(0), 0);
        Due.is("behind a FAULT: SEEN", x.count(0), 1);
        Due.is("behind a FAULT: IMAGES", x.count(1), 1);
        Due.is("behind a FAULT: bytes", x.count(2), 0);
        Due.is("its FAULT", x.fault(), 1);
        Due.is("asked again", x.fault(), 1);
        x.feed('?');
        Due.is("of the latest text() alone", x.fault(), 1);
        x.end(0);
        Due.is("then none", Due.told(x, "plain;"), 1);
        Due.is("no FAULT", x.fault(), 0);
    }

    private static void rules() {
        HalfScales x = new HalfScales();
        Due.is("rule(8)", x.rule(8), -1);
        Due.is("rule(-1)", x.rule(-1), -1);
        Due.is("rule(min)", x.rule(Integer.MIN_VALUE), -1);
    }

    private static void fault(String text, int answer, int number) {
        HalfScales x = new HalfScales();
        Due.is("text() of '" + text + "'", Due.told(x, text), answer);
        Due.is("fault() of '" + text + "'", x.fault(), number);
    }
}
