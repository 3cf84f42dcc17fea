/** What the tests of the project share: answers that are due, texts that are fed, and how a test ends. */
final class Due {
    private static int right = 0;
    private static int wrong = 0;

    private Due() {
    }

    static void is(String call, long got, long want) {
        if (got == want) {
            right++;
        } else {
            wrong++;
            System.out.println(call + " answered " + got + ", due is " + want);
        }
    }

    static void holds(String what, boolean so) {
        is(what, so ? 1 : 0, 1);
    }

    /** Feeds a text and has it read. */
    static int told(HalfScales x, String text) {
        for (int i = 0; i < text.length(); i++) {
            is("feed of " + text, x.feed(text.charAt(i)), i + 1);
        }
        return x.text();
    }

    static HalfScales of(String text) {
        HalfScales x = new HalfScales();
        holds("taken: " + text, told(x, text) >= 0);
        return x;
    }

    static void finish(String test) {
        System.out.println(test + ": " + right + " answers as due, " + wrong + " not");
        if (wrong != 0 || right == 0) {
            System.exit(1);
        }
    }
}
