/** Puts a text on the tape of an object. */
final class Texts {
    private Texts() {
    }

    /** The five numbers of each feed, padded with blanks. */
    static int[][] feeds(String text) {
        int[][] feeds = new int[(text.length() + 19) / 20][5];
        for (int k = 0; k < feeds.length * 20; k++) {
            int sign = k < text.length() ? text.charAt(k) & 255 : 32;
            feeds[k / 20][k % 20 / 4] |= sign << 24 - k % 4 * 8;
        }
        return feeds;
    }

    static int tell(BeatenBounds bounds, String text) {
        for (int[] feed : feeds(text)) {
            bounds.feed(feed[0], feed[1], feed[2], feed[3], feed[4]);
        }
        return bounds.text(text.length());
    }

    static BeatenBounds of(String text) {
        BeatenBounds bounds = new BeatenBounds();
        if (tell(bounds, text) < 0) {
            throw new IllegalArgumentException("fault " + bounds.fault(0) + " at " + bounds.fault(1) + ": " + text);
        }
        return bounds;
    }

    static int letters(String name) {
        int sum = 0;
        for (int k = 0; k < 6; k++) {
            sum = 32 * sum + (k < name.length() ? name.charAt(k) - 96 : 0);
        }
        return sum;
    }
}
