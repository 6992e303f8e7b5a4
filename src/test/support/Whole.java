import java.util.NoSuchElementException;

/** What can be seen of an object, all at once; and numbers that are no such ones. */
final class Whole {
    private Whole() {
    }

    static String of(BeatenBounds x) {
        StringBuilder all = new StringBuilder();
        for (int what = 0; what <= 12; what++) {
            all.append(x.count(what)).append(' ');
        }
        return all.append(ofLand(x)).toString();
    }

    /** Without what is counted: SEEN, KNOWN and what can be undone are not among it. */
    static String ofLand(BeatenBounds x) {
        StringBuilder all = new StringBuilder();
        for (int parish = 0; parish < x.count(0); parish++) {
            all.append('|');
            for (int what = 0; what <= 7; what++) {
                all.append(x.parish(parish, what)).append(' ');
            }
            for (int way = 0; way < 4; way++) {
                all.append(x.cake(parish, way)).append(' ');
            }
        }
        for (int child = 0; child < x.count(1); child++) {
            all.append('/').append(x.child(child, 0)).append(' ').append(x.child(child, 1)).append(' ')
                .append(x.child(child, 2));
        }
        return all.append(" year ").append(x.count(5)).append(" quarrel ").append(x.count(6)).toString();
    }

    /** None of 0 .. n less 1. */
    static int[] noneOf(int n) {
        return new int[] {Integer.MIN_VALUE, -100, -2, -1, n, n + 1, n + 100, Integer.MAX_VALUE};
    }

    /** None of least .. most. */
    static int[] outside(int least, int most) {
        return new int[] {Integer.MIN_VALUE, least - 1, most + 1, Integer.MAX_VALUE};
    }

    /** 1: IndexOutOfBoundsException, 2: NoSuchElementException, 0: none, 3: one of the machine's below them. */
    static int thrown(BeatenBounds x, int parish, int what) {
        try {
            x.parish(parish, what);
            return 0;
        } catch (IndexOutOfBoundsException e) {
            return e.getClass() == IndexOutOfBoundsException.class ? 1 : 3;
        } catch (NoSuchElementException e) {
            return e.getClass() == NoSuchElementException.class ? 2 : 3;
        }
    }
}
