/** Counts the answers that are not as due, and ends the test with 1 if there was one. */
final class Due {
    private static int right;
    private static int wrong;
    private static String about = "";

    private Due() {
    }

    /** What the answers from now on are about. */
    static void about(String what) {
        about = "[" + what + "] ";
    }

    static int answers() {
        return right + wrong;
    }

    static void is(String call, long got, long want) {
        if (got == want) {
            right++;
        } else {
            wrong++;
            System.out.println(about + call + " answered " + got + ", due is " + want);
        }
    }

    static void is(String call, boolean got, boolean want) {
        is(call, got ? 1 : 0, want ? 1 : 0);
    }

    /** All that can be asked of an object without changing it, at two times. */
    static void same(String call, String got, String want) {
        is(call + ": " + got + " as " + want, got.equals(want), true);
    }

    /** A text with a fault, on an object of its own. */
    static void faulty(String text, int fault, int place) {
        BeatenBounds bounds = new BeatenBounds();
        is("text: " + text, Texts.tell(bounds, text), BeatenBounds.NONE);
        is("fault(0): " + text, bounds.fault(0), fault);
        is("fault(1): " + text, bounds.fault(1), place);
    }

    /** A text without a fault. */
    static void sound(String text, int lines) {
        BeatenBounds bounds = new BeatenBounds();
        is("text: " + text, Texts.tell(bounds, text), lines);
        is("fault(0): " + text, bounds.fault(0), 0);
        is("fault(1): " + text, bounds.fault(1), BeatenBounds.NONE);
    }

    static void end() {
        System.out.println(right + " answers as due, " + wrong + " not");
        if (wrong != 0) {
            System.exit(1);
        }
    }
}
