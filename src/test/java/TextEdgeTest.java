/** The boundary cases of promises 1 to 9: THE TAPE, TOKENS, FAULTS and their places, what is shown. */
public final class TextEdgeTest {

    private static final int MIN = Edge.MIN;
    private static final int MAX = Edge.MAX;
    private static final String BLANKS = " ".repeat(160);
    private static final String FOUR = "plain;child;sweet;dealer;";

    public static void main(String[] args) {
        promise1NewObject();
        promise1NothingIsShared();
        promise2Feed();
        promise2FeedFull();
        promise3End();
        promise3EndFull();
        promise4Lines();
        promise4EachByte();
        promise4NumberLengths();
        promise4NameEnds();
        promise4Ends();
        promise4Cells();
        promise4Weights();
        promise4OneNumber();
        promise4Pairs();
        promise4SecondTime();
        promise4TooMany();
        promise4NoHalf();
        promise4NoOrder();
        promise4FirstMet();
        promise4Places();
        promise4Taken();
        promise4Refused();
        promise5Fault();
        promise6Rule();
        promise7Cell();
        promise8Person();
        promise9Pair();
        Due.finish("TextEdgeTest");
    }

    // ---- 1

    private static void promise1NewObject() {
        int[] rules = {2, 0, 0, 0, 0, 2, 0, 2};
        for (int what = 0; what < rules.length; what++) {
            Edge.still("new", Edge.NEW, rules[what], "rule", what);
        }
        Edge.still("new, the first CELL", Edge.NEW, 1, "cell", 0);
        Edge.still("new, the last CELL", Edge.NEW, 1, "cell", 1);
        Edge.still("new, no third CELL", Edge.NEW, -1, "cell", 2);
        Edge.still("new, nobody", Edge.NEW, -1, "person", 0);
        Edge.still("new, nothing LIGHTER", Edge.NEW, -1, "pair", 0);
        Edge.still("new, no FAULT", Edge.NEW, 0, "fault");
        Edge.still("new, nothing torn", Edge.NEW, 0, "torn");
        Edge.still("new, nothing SEEN", Edge.NEW, 0, "count", 0);
        Edge.still("new, no IMAGES", Edge.NEW, 0, "count", 1);
        Edge.still("new, no bytes", Edge.NEW, 0, "count", 2);
        Edge.still("new, SHEET 0 is nothing", Edge.NEW, -4, "count", 3);
        for (int k = 0; k < 4; k++) {
            Edge.still("new, SHEETS of nothing", Edge.NEW, -11, "lay", k, 0, 0);
        }
        for (int k = 0; k < 2; k++) {
            Edge.still("new, no IMAGE", Edge.NEW, -2, "back", k);
        }
    }

    private static void promise1NothingIsShared() {
        HalfScales full = Edge.ALL.object();
        for (int part = 0; part < Whole.PARTS; part++) {
            HalfScales x = new HalfScales();
            Edge.same("beside a full object", Whole.part(part, x), Whole.part(part, Edge.NEW.object()));
        }
        Due.is("the full object stays full", full.count(2), 160);
    }

    // ---- 2

    private static void promise2Feed() {
        Edge.is("the least byte", Edge.NEW, 1, "feed", 0);
        Edge.is("the greatest byte", Edge.NEW, 1, "feed", 127);
        Edge.bad(Edge.NEW, "feed", 0, Edge.row(0), -1, 128, -128, 255, 256, 256 + 'a', MIN, MIN + 'a', MAX);
        Edge.bad(Edge.SOME, "feed", 0, Edge.row(0), -1, 128, MIN, MAX);
        HalfScales x = new HalfScales();
        for (int c = 0; c < 128; c++) {
            Due.is("every byte is taken, " + c, x.feed(c), c + 1);
        }
    }

    private static void promise2FeedFull() {
        Run one = new Run().fed(BLANKS.substring(1));
        Edge.is("the 160th byte", one, 160, "feed", ' ');
        Run full = one.then("feed", ' ');
        Edge.still("the 161st byte", full, -3, "feed", ' ');
        Edge.still("the 161st byte, the least", full, -3, "feed", 0);
        Edge.still("the 161st byte, the greatest", full, -3, "feed", 127);
        Edge.bad(full, "feed", 0, Edge.row(0), -1, 128, MIN, MAX);
        Edge.is("room again behind end(159)", full.then("end", 159), 160, "feed", ' ');
        Edge.is("room again behind end(0)", full.then("end", 0), 1, "feed", ' ');
        Edge.is("room again behind text()", full.then("text"), 1, "feed", ' ');
        Edge.is("room again behind a FAULT", one.told("?"), 1, "feed", ' ');
        Edge.still("a refused byte is not on THE TAPE", full.then("feed", '?'), 160, "count", 2);
        Edge.is("a refused byte is not read", full.then("feed", '?'), 0, "text");
    }

    // ---- 3

    private static void promise3End() {
        Edge.still("an empty TAPE keeps none", Edge.NEW, 0, "end", 0);
        Edge.bad(Edge.NEW, "end", 0, Edge.row(0), -1, 1, 160, MIN, MAX);
        Run seven = new Run().fed("plain;?");
        Edge.still("all are kept", seven, 7, "end", 7);
        Edge.is("all but one are kept", seven, 7, "end", 6);
        Edge.is("one is kept", seven, 7, "end", 1);
        Edge.is("none is kept", seven, 7, "end", 0);
        Edge.bad(seven, "end", 0, Edge.row(0), -1, 8, 9, 160, MIN, MAX);
        Edge.is("how many are left", seven.then("end", 6), 6, "count", 2);
        Edge.is("the first ones are left", seven.then("end", 6), 1, "text");
        Edge.is("the last one is still there", seven.then("end", 7), -16, "text");
        Edge.is("behind what was kept", seven.then("end", 5), 6, "feed", ';');
        Edge.is("a byte in place of one that was cut", seven.then("end", 5).fed(" ;"), 1, "text");
        Edge.is("nothing is left", seven.then("end", 0), 0, "text");
        Edge.is("none behind text()", seven.then("text"), 0, "end", 0);
        Edge.still("there are none behind text()", seven.then("text"), -1, "end", 1);
    }

    private static void promise3EndFull() {
        Run full = new Run().fed(BLANKS);
        Edge.still("all 160 are kept", full, 160, "end", 160);
        Edge.bad(full, "end", 0, Edge.row(0), -1, 161, MIN, MAX);
        Edge.is("159 are kept", full, 160, "end", 159);
        Edge.is("159 are left", full.then("end", 159), 159, "end", 159);
        Edge.still("the 160th is gone", full.then("end", 159), -1, "end", 160);
    }

    // ---- 4

    private static void promise4Lines() {
        fault("", 0, 0);
        fault(" ", 0, 0);
        fault(BLANKS, 0, 0);
        fault("plain;", 1, 0);
        fault(BLANKS.substring(6) + "plain;", 1, 0);
        fault("plain;" + BLANKS.substring(6), 1, 0);
        fault("thing 1 1;" + FOUR + "slip 1;fine 1;case 5;" + "lighter 0 1;".repeat(8), 16, 0);
        fault("slip1;fine01;case5;thing9 9;", 4, 0);
        fault("lighter0 1;", 1, 0);
        fault(" lighter  0  1  ; ", 1, 0);
    }

    private static void promise4EachByte() {
        for (int c = 0; c < 128; c++) {
            boolean isName = c >= 97 && c <= 122;
            boolean isFigure = c >= 48 && c <= 57;
            int number = c == 32 ? 0 : isName || isFigure || c == 59 ? 2 : 1;
            String sign = String.valueOf((char) c);
            fault(sign, number == 0 ? 0 : -10, number);
            // Behind a NAME a letter makes it longer, which begins no line; all else but ; can not stand there.
            fault("plain" + sign + ";", c == 32 ? 1 : isName ? -10 : c == 59 ? -16 : -15, c == 32 ? 0 : number);
            // Behind a figure a figure makes it longer.
            int behind = c == 32 || isFigure ? 0 : c == 59 ? 2 : number;
            fault("fine 1" + sign + ";", behind == 0 ? 1 : c == 59 ? -17 : -16, behind);
        }
    }

    private static void promise4NumberLengths() {
        fault("fine 9;", 1, 0);
        fault("fine 99;", 1, 0);
        fault("fine 999;", -15, 1);
        fault("fine 00;", 1, 0);
        fault("fine 000;", -15, 1);
        fault("fine 0000000000;", -15, 1);
        fault("fine 1 0;", -17, 2);
        fault("slip 09;", 1, 0);
        fault("slip 009;", -15, 1);
        fault("case 02;", 1, 0);
        fault("case 002;", -15, 1);
        fault("thing 01 01;", 1, 0);
        fault("thing 001 1;", -16, 1);
        fault("thing 1 001;", -18, 1);
        fault("thing 1 1 001;", -20, 1);
        fault("lighter 00 01;", 1, 0);
        fault("lighter 000 1;", -18, 1);
        fault("lighter 0 001;", -20, 1);
        fault("plain 111;", -16, 1);
        fault("111;", -10, 1);
        fault("11;", -10, 2);
        fault("plain;111;", -16, 1);
        fault("1".repeat(160), -10, 1);
    }

    private static void promise4NameEnds() {
        for (String name : "plain child sweet dealer thing slip fine case lighter".split(" ")) {
            fault(name.substring(0, name.length() - 1) + ";", -10, 2);
            fault(name.substring(1) + ";", -10, 2);
            fault(name + "a;", -10, 2);
            fault("z" + name + ";", -10, 2);
            fault(name.toUpperCase() + ";", -10, 1);
            fault(name + name + ";", -10, 2);
            for (int i = 0; i < name.length(); i++) {
                fault(name.substring(0, i) + "q" + name.substring(i + 1) + ";", -10, 2);
            }
        }
        fault("a", -10, 2);
        fault("z", -10, 2);
        fault("a".repeat(160), -10, 2);
    }

    /** Where the end can not stand its place is the length, blanks and all. */
    private static void promise4Ends() {
        for (String line : new String[] {"plain", "child", "sweet", "dealer", "thing", "thing 1", "thing 1 1", "thing 1 1 1",
            "thing 1 1 1 1 1 1 1 1", "slip", "slip 1", "fine", "fine 1", "case", "case 2", "lighter", "lighter 0",
            "lighter 0 1"}) {
            fault(line, -10 - line.length(), 2);
            fault(line + "  ", -12 - line.length(), 2);
            fault("slip 0;".repeat(line.startsWith("slip") ? 0 : 1) + line,
                -10 - line.length() - (line.startsWith("slip") ? 0 : 7), 2);
        }
    }

    private static void promise4Cells() {
        fault("thing;", -15, 2);
        fault("thing 1;", -17, 2);
        fault("thing 1 1;", 1, 0);
        fault("thing 1 1 1 1 1 1 1;", 1, 0);
        fault("thing 1 1 1 1 1 1 1 1;", 1, 0);
        fault("thing 1 1 1 1 1 1 1 1 1;", -32, 5);
        fault("thing 1 1 1 1 1 1 1 1 0", -32, 5);
        fault("thing 1 1 1 1 1 1 1 1 1 1 1;", -32, 5);
        fault("thing 1 1 1 1 1 1 1 1 9?", -32, 5);
        fault("thing 1 1 1 1 1 1 1 1 100;", -32, 1);
        fault("thing 1 1 1 1 1 1 1 1 ?;", -32, 1);
        fault("thing 1 1 1 1 1 1 1 1 plain;", -32, 2);
        // The document leaves it open which FAULT of the two a 9th CELL above 9 is: NOTES.md.
        fault("thing 1 1 1 1 1 1 1 1 10;", -32, 3);
        Edge.is("2 CELLS", Run.of("thing 5 5;"), 2, "rule", 0);
        Edge.is("3 CELLS", Run.of("thing 5 5 5;"), 3, "rule", 0);
        Edge.is("8 CELLS", Run.of("thing 5 5 5 5 5 5 5 5;"), 8, "rule", 0);
        Edge.is("8 become 2", Run.of("thing 5 5 5 5 5 5 5 5;").told("thing 5 5;"), 2, "rule", 0);
        Edge.is("2 of weight 1, if there is no line", Run.of("thing 5 5 5;").told("plain;"), 2, "rule", 7);
    }

    private static void promise4Weights() {
        for (int i = 0; i < 8; i++) {
            StringBuilder least = new StringBuilder("thing");
            StringBuilder greatest = new StringBuilder("thing");
            StringBuilder beyond = new StringBuilder("thing");
            StringBuilder farthest = new StringBuilder("thing");
            for (int j = 0; j < 8; j++) {
                least.append(j == i ? " 0" : " 1");
                greatest.append(j == i ? " 9" : " 1");
                beyond.append(j == i ? " 10" : " 1");
                farthest.append(j == i ? " 99" : " 1");
            }
            Edge.is("a CELL of 0", Run.of(least + ";"), 0, "cell", i);
            Edge.is("a CELL of 9", Run.of(greatest + ";"), 9, "cell", i);
            fault(beyond + ";", -16 - 2 * i, 3);
            fault(farthest + ";", -16 - 2 * i, 3);
        }
    }

    private static void promise4OneNumber() {
        int[][] bounds = {{0, 9, 2}, {0, 99, 3}, {2, 5, 5}};
        String[] names = {"slip", "fine", "case"};
        for (int n = 0; n < 3; n++) {
            for (int v = 0; v < 100; v++) {
                String text = names[n] + " " + v + ";";
                boolean isIn = v >= bounds[n][0] && v <= bounds[n][1];
                fault(text, isIn ? 1 : -15, isIn ? 0 : 3);
                if (isIn) {
                    Edge.is(text, Run.of(text), v, "rule", bounds[n][2]);
                }
            }
            fault(names[n] + " ;", -15, 2);
            fault(names[n] + " plain;", -15, 2);
            fault(names[n] + " ?;", -15, 1);
            fault(names[n] + " 2 2;", -17, 2);
        }
    }

    private static void promise4Pairs() {
        for (int a = 0; a < 12; a++) {
            for (int b = 0; b < 12; b++) {
                String text = "case 5;lighter " + a + " " + b + ";";
                int second = 26 + String.valueOf(a).length();
                if (a > 4) {
                    fault(text, -25, 3);
                } else if (b > 4 || a == b) {
                    fault(text, -second, 3);
                } else {
                    fault(text, 2, 0);
                    Edge.is(text, Run.of(text), 10 * a + b, "pair", 0);
                }
            }
        }
        fault("lighter 0 00;", -20, 3);
        fault("lighter 99 99;", -18, 3);
        fault("lighter 5 5;", -18, 3);
        fault("lighter 1;", -19, 2);
        fault("lighter ;", -18, 2);
        fault("lighter plain 1;", -18, 2);
        fault("lighter 0 1 1;", -22, 2);
    }

    private static void promise4SecondTime() {
        String[] lines = {"thing 1 1;", "slip 1;", "fine 1;", "case 2;"};
        for (String line : lines) {
            String name = line.substring(0, line.indexOf(' '));
            fault(line + line, -10 - line.length(), 4);
            fault(line + "  " + line, -12 - line.length(), 4);
            fault(line + "plain;" + line, -16 - line.length(), 4);
            fault(line + name, -10 - line.length(), 4);
            fault(line + name + "?", -10 - line.length(), 4);
            fault(line + name + " 99;", -10 - line.length(), 4);
            fault(line + line + line, -10 - line.length(), 4);
            Edge.is("once in each text", Run.of(line).fed(line), 1, "text");
        }
        fault("thing 1 1;slip 1;fine 1;case 2;", 4, 0);
        fault("case 2;fine 1;slip 1;thing 1 1;", 4, 0);
        fault("thing 1 1;slip 1;fine 1;case 2;thing", -41, 4);
        fault("plain;plain;", 2, 0);
        fault("lighter 0 1;lighter 0 1;", 2, 0);
    }

    private static void promise4TooMany() {
        fault(FOUR, 4, 0);
        Edge.is("four PEOPLE", Run.of(FOUR), 4, "rule", 1);
        for (String name : FOUR.split(";")) {
            fault((name + ";").repeat(4), 4, 0);
            fault(FOUR + name + ";", -35, 5);
            fault(FOUR + "  " + name + ";", -37, 5);
            fault(FOUR + name, -35, 5);
            fault(FOUR + name + "?", -35, 5);
            fault(FOUR + name + " 111", -35, 5);
        }
        fault(FOUR + "plai;", -35, 2);
        String eight = "lighter 0 1;".repeat(8);
        fault(eight, 8, 0);
        Edge.is("eight pairs", Run.of(eight), 8, "rule", 6);
        fault(eight + "lighter 0 1;", -106, 5);
        fault(eight + "lighter 1 1;", -106, 5);
        fault(eight + "lighter 0 5;", -106, 5);
        fault(eight + " lighter", -107, 5);
        fault(eight + "lighter?", -106, 5);
        fault(eight + "plain;", 9, 0);
    }

    private static void promise4NoHalf() {
        for (int many = 2; many <= 5; many++) {
            String start = "case " + many + ";";
            fault(start + "lighter " + (many - 1) + " 0;", 2, 0);
            fault(start + "lighter 0 " + (many - 1) + ";", 2, 0);
            if (many < 5) {
                fault(start + "lighter " + many + " 0;", -29, 6);
                fault(start + "lighter 0 " + many + ";", -29, 6);
                fault(start + "lighter 0 " + many + ";  ", -31, 6);
                fault("lighter 0 " + many + ";" + start, -29, 6);
                fault("lighter 0 " + many + ";" + "case " + (many + 1) + ";", 2, 0);
            }
        }
        fault("lighter 0 1;", 1, 0);
        fault("lighter 0 2;", -22, 6);
        fault("lighter 4 3;", -22, 6);
        fault("lighter 0 2;lighter 0 1;", -34, 6);
        fault("lighter 0 2;plain;", -28, 6);
    }

    private static void promise4NoOrder() {
        fault("lighter 0 1;lighter 1 0;", -34, 7);
        fault("lighter 0 1;lighter 1 0; ", -35, 7);
        fault("lighter 1 0;lighter 0 1;plain;", -40, 7);
        fault("case 3;lighter 0 1;lighter 1 2;", 3, 0);
        fault("case 3;lighter 0 1;lighter 1 2;lighter 2 0;", -53, 7);
        fault("case 3;lighter 0 1;lighter 1 2;lighter 0 2;", 4, 0);
        fault("lighter 0 1;lighter 1 2;lighter 2 0;case 3;", -53, 7);
        fault("case 4;lighter 0 1;lighter 1 2;lighter 2 3;lighter 3 0;", -65, 7);
        fault("case 5;lighter 0 1;lighter 1 2;lighter 2 3;lighter 3 4;", 5, 0);
        fault("case 5;lighter 0 1;lighter 1 2;lighter 2 3;lighter 3 4;lighter 4 0;", -77, 7);
        fault("case 5;lighter 4 3;lighter 3 2;lighter 2 1;lighter 1 0;lighter 4 0;", 6, 0);
        fault("case 5;lighter 0 1;lighter 3 4;lighter 4 3;", -53, 7);
        // Six is met ahead of seven.
        fault("lighter 0 1;lighter 1 0;lighter 2 1;", -46, 6);
        fault("lighter 3 4;lighter 4 3;", -34, 6);
        fault("lighter 0 1;lighter 1 0;?", -34, 1);
    }

    /** A TOKEN is read when the one before has been taken. */
    private static void promise4FirstMet() {
        fault("plai?", -10, 2);
        fault("plain?", -15, 1);
        fault("slip 10?", -15, 3);
        fault("slip 9?", -16, 1);
        fault("slip slip?", -15, 2);
        fault("thing 10 ?", -16, 3);
        fault("thing 1 ?", -18, 1);
        fault("lighter 5 ?", -18, 3);
        fault("lighter 4 ?", -20, 1);
        fault("lighter 0 0?", -20, 3);
        fault("; ?", -10, 2);
        fault("1 ?", -10, 2);
        fault("slip 1;slip ?", -17, 4);
        fault("slip 10;slip 1;", -15, 3);
        fault("lighter 0 4;case 9;", -27, 3);
        fault("?plain", -10, 1);
    }

    private static void promise4Places() {
        fault("?" + BLANKS.substring(1), -10, 1);
        fault(BLANKS.substring(1) + "?", -169, 1);
        fault(BLANKS.substring(1) + "1", -169, 2);
        fault(BLANKS.substring(5) + "plain", -170, 2);
        fault("plain" + BLANKS.substring(5), -170, 2);
        fault("lighter 0 2;" + BLANKS.substring(12), -170, 6);
        fault("lighter 0 1;lighter 1 0;" + BLANKS.substring(24), -170, 7);
        fault(BLANKS.substring(12) + "lighter 0 2;", -170, 6);
    }

    private static void promise4Taken() {
        Run taken = Edge.SOME.then("end", 0).told("plain;");
        int[] rules = {2, 1, 0, 0, 0, 2, 0, 2};
        for (int what = 0; what < rules.length; what++) {
            Edge.still("in place of what there was", taken, rules[what], "rule", what);
        }
        Edge.still("no second PERSON", taken, -1, "person", 1);
        Edge.still("nothing is SEEN", taken, 0, "count", 0);
        Edge.still("all fits", taken, 1023, "fits", 0);
        Edge.still("IMAGES are gone", taken, 0, "count", 1);
        Edge.still("no IMAGE 0", taken, -2, "back", 0);
        Edge.still("no IMAGE 1", taken, -2, "back", 1);
        Edge.is("none to be kept in place of", taken, 0, "keep", 1);
        Edge.still("THE TAPE is empty", taken, 0, "count", 2);
        Edge.still("no FAULT", taken, 0, "fault");
        Edge.still("SHEETS stay", taken, 5, "count", 3);
        Edge.still("torn() stays", taken, 2, "torn");
        Run empty = Edge.ALL.then("end", 0).then("text");
        Edge.is("an empty text", Edge.ALL.then("end", 0), 0, "text");
        for (int what = 0; what < rules.length; what++) {
            Edge.still("an empty text tells all", empty, new int[] {2, 0, 0, 0, 0, 2, 0, 2}[what], "rule", what);
        }
        Edge.still("an empty text: CELL 0", empty, 1, "cell", 0);
        Edge.still("an empty text: CELL 1", empty, 1, "cell", 1);
        Edge.still("an empty text: IMAGES", empty, 0, "count", 1);
        Edge.still("an empty text: SEEN", empty, 0, "count", 0);
    }

    /** What was told stays, behind each FAULT; THE TAPE is empty then. */
    private static void promise4Refused() {
        Run before = Edge.SOME.then("end", 0);
        String[] texts = {"thing 0 0;?", "dealer;slip", "slip 9;fine 98;case 6;", "fine 98;fine 98;", FOUR + "plain;",
            "lighter 0 2;", "lighter 0 1;lighter 1 0;"};
        int[] answers = {-20, -21, -30, -18, -35, -22, -34};
        for (int n = 1; n <= 7; n++) {
            String text = texts[n - 1];
            fault(text, answers[n - 1], n);
            Run after = before.told(text);
            Edge.still("THE TAPE is empty then", after, 0, "count", 2);
            Edge.still("its number", after, n, "fault");
            // But for its number all is as behind any other FAULT.
            Run other = after.told("?");
            for (int part = 0; part < Whole.PARTS; part++) {
                Edge.same("behind FAULT " + n, Whole.part(part, other.object()), Whole.part(part, before.told("?").object()));
            }
            int[] rules = {5, 4, 2, 19, 1, 4, 2, 25};
            for (int what = 0; what < rules.length; what++) {
                Edge.is("behind FAULT " + n, after, rules[what], "rule", what);
            }
            Edge.is("SEEN behind FAULT " + n, after, 3, "count", 0);
            Edge.is("IMAGES behind FAULT " + n, after, 1, "count", 1);
            Edge.is("IMAGE 1 behind FAULT " + n, after, 5, "back", 1);
        }
    }

    // ---- 5

    private static void promise5Fault() {
        Edge.still("at first", Edge.NEW, 0, "fault");
        Run one = new Run().told("?");
        Edge.still("of the latest text()", one, 1, "fault");
        Edge.still("behind a byte", one.then("feed", 'a'), 1, "fault");
        Edge.still("behind end()", one.then("feed", 'a').then("end", 0), 1, "fault");
        Edge.still("behind a refused byte", one.then("feed", 128), 1, "fault");
        Edge.still("behind a refused call", one.then("weigh", 0, 10), 1, "fault");
        Edge.still("behind a change", one.then("weigh", 0, 9), 1, "fault");
        Edge.still("behind keep() and back()", one.then("keep", 0).then("back", 0), 1, "fault");
        Edge.still("behind a FAULT of a SHEET", one.then("read", 0, 0, 0, 1), 1, "fault");
        Edge.still("asked before", one.then("fault"), 1, "fault");
        Edge.still("then another", one.told("a"), 2, "fault");
        Edge.still("then none", one.told("plain;"), 0, "fault");
        Edge.still("then none of an empty text", one.then("text"), 0, "fault");
        Edge.still("none, then one", Run.of("plain;").told("plain"), 2, "fault");
    }

    // ---- 6 to 9

    private static void promise6Rule() {
        Edge.bad(Edge.NEW, "rule", 0, Edge.row(0), -1, 8, MIN, MAX);
        Edge.bad(Edge.ALL, "rule", 0, Edge.row(0), -1, 8, 9, MIN, MAX);
        Edge.good(Edge.NEW, "rule", 0, Edge.row(0), 0, 7);
        int[] all = {8, 4, 9, 99, 0, 5, 8, 51};
        for (int what = 0; what < all.length; what++) {
            Edge.still("as much as there may be", Edge.ALL, all[what], "rule", what);
        }
        Edge.still("no WEIGHTS", Run.of("thing 0 0;"), 0, "rule", 7);
        Edge.still("all WEIGHTS of 9", Run.of("thing 9 9 9 9 9 9 9 9;"), 72, "rule", 7);
        Edge.still("no CELL beyond the last is summed", Run.of("thing 9 9 9;").then("join", 0), 18, "rule", 7);
        Edge.still("one APPEAL", Run.of("fine 2;").then("appeal"), 1, "rule", 4);
        Edge.still("all APPEALS of 99", appealed(Run.of("fine 99;"), 7), 7, "rule", 4);
        Edge.still("FINE is 1 then", appealed(Run.of("fine 99;"), 7), 1, "rule", 3);
        Run many = Edge.NEW;
        for (int i = 0; i < 150; i++) {
            many = many.then("set", 3, 2).then("appeal");
        }
        Edge.still("APPEALS have no bound", many, 150, "rule", 4);
    }

    private static void promise7Cell() {
        Run two = Run.of("thing 0 9;");
        Edge.still("the first CELL", two, 0, "cell", 0);
        Edge.still("the last CELL of 2", two, 9, "cell", 1);
        Edge.bad(two, "cell", 0, Edge.row(0), -1, 2, 7, 8, MIN, MAX);
        Run eight = Run.of("thing 1 2 3 4 5 6 7 8;");
        for (int i = 0; i < 8; i++) {
            Edge.still("each CELL of 8", eight, i + 1, "cell", i);
        }
        Edge.bad(eight, "cell", 0, Edge.row(0), -1, 8, 9, MIN, MAX);
        Edge.still("the last one, joined, is gone", eight.then("join", 0), -1, "cell", 7);
        Edge.still("the one ahead is the last", eight.then("join", 0), 8, "cell", 6);
        Edge.still("one more is there", two.then("split", 1), 4, "cell", 2);
    }

    private static void promise8Person() {
        Edge.bad(Edge.NEW, "person", 0, Edge.row(0), -1, 0, 1, MIN, MAX);
        Run one = Run.of("dealer;");
        Edge.still("the only one", one, 3, "person", 0);
        Edge.bad(one, "person", 0, Edge.row(0), -1, 1, MIN, MAX);
        Run four = Run.of(FOUR);
        for (int p = 0; p < 4; p++) {
            Edge.still("each of four, by order", four, p, "person", p);
        }
        Edge.bad(four, "person", 0, Edge.row(0), -1, 4, MIN, MAX);
    }

    private static void promise9Pair() {
        Edge.bad(Edge.NEW, "pair", 0, Edge.row(0), -1, 0, 1, MIN, MAX);
        Run one = Run.of("case 5;lighter 4 0;");
        Edge.still("the heavier one is 0", one, 40, "pair", 0);
        Edge.bad(one, "pair", 0, Edge.row(0), -1, 1, MIN, MAX);
        Edge.still("the lighter one is 0", Run.of("lighter 0 1;"), 1, "pair", 0);
        int[] pairs = {1, 2, 3, 4, 12, 13, 14, 23};
        for (int i = 0; i < 8; i++) {
            Edge.still("each of eight, by order", Edge.ALL, pairs[i], "pair", i);
        }
        Edge.bad(Edge.ALL, "pair", 0, Edge.row(0), -1, 8, MIN, MAX);
    }

    private static Run appealed(Run made, int times) {
        Run longer = made;
        for (int i = 0; i < times; i++) {
            longer = longer.then("appeal");
        }
        return longer;
    }

    private static void fault(String text, int answer, int number) {
        HalfScales x = new HalfScales();
        Due.is("text() of '" + text + "'", Due.told(x, text), answer);
        Due.is("fault() of '" + text + "'", x.fault(), number);
        Due.is("bytes behind '" + text + "'", x.count(2), 0);
    }
}
