/** Promises 20 and 21: bookmark, bookmarkAt. */
public final class BookmarkTest {
    public static void main(String[] args) {
        sorted();
        sixAtMost();
        gone();
        wrongStates();
        wrongInputs();
        Check.end();
    }

    private static TwinTuners running() {
        TwinTuners x = new TwinTuners();
        x.request(0, 0, 5, 9, 0);
        x.tick();
        return x;
    }

    private static void sorted() {
        TwinTuners x = running();
        Check.due("21: none", x.bookmarkAt(0, 0), -1);
        Check.due("20: first", x.bookmark(0, 50), 1);
        Check.due("20: the last second", x.bookmark(0, 99), 2);
        Check.due("20: second 0", x.bookmark(0, 0), 3);
        Check.due("20: there is one", x.bookmark(0, 50), 3);
        Check.due("20: there is one", x.bookmark(0, 0), 3);
        Check.due("20: there is one", x.bookmark(0, 99), 3);
        Check.due("20: between", x.bookmark(0, 20), 4);
        int[] due = {0, 20, 50, 99, -1};
        for (int i = 0; i < due.length; i++) {
            Check.due("21: the one of number " + i, x.bookmarkAt(0, i), due[i]);
        }
        for (int i : new int[] {-1, 5, 6, 7, Integer.MIN_VALUE, Integer.MAX_VALUE}) {
            Check.due("21: none of number " + i, x.bookmarkAt(0, i), -1);
        }
        x.request(1, 1, 2, 9, 0);
        x.ticks(9);
        Check.due("20: another recording has its own", x.bookmark(1, 7), 1);
        Check.due("21: another recording's", x.bookmarkAt(1, 0), 7);
        TwinTuners y = running();
        Check.due("20: second 0 as the first", y.bookmark(0, 0), 1);
        Check.due("21: second 0 as the first", y.bookmarkAt(0, 0), 0);
        Check.due("20: FINISHED", x.bookmark(0, 7), 5);
        Check.due("21: FINISHED", x.bookmarkAt(0, 1), 7);
    }

    private static void sixAtMost() {
        TwinTuners x = running();
        for (int i = 1; i <= 6; i++) {
            Check.due("20: of six", x.bookmark(0, 60 - i), i);
        }
        Check.badState("20: a seventh", x, () -> x.bookmark(0, 1));
        Check.badState("20: one of the six again", x, () -> x.bookmark(0, 55));
        Check.badArgument("20: bad, and a seventh", x, () -> x.bookmark(0, 100));
        for (int i = 0; i < 6; i++) {
            Check.due("21: of six", x.bookmarkAt(0, i), 54 + i);
        }
        Check.due("21: behind six", x.bookmarkAt(0, 6), -1);
    }

    private static void gone() {
        TwinTuners x = running();
        x.bookmark(0, 4);
        x.cut(2);
        Check.due("21: a power cut leaves them", x.bookmarkAt(0, 0), 4);
        x.cancel(0);
        Check.due("21: so does a cancel", x.bookmarkAt(0, 0), 4);
        x.erase(0);
        Check.due("21: ERASED", x.bookmarkAt(0, 0), -1);
    }

    private static void wrongStates() {
        TwinTuners x = new TwinTuners();
        x.request(0, 5, 5, 9, 0);
        x.request(1, 5, 5, 9, 0);
        x.request(2, 5, 5, 1, 0);
        Check.badState("20: WAITING", x, () -> x.bookmark(0, 1));
        x.ticks(6);
        Check.badState("20: MISSED", x, () -> x.bookmark(2, 1));
        Check.badArgument("20: bad and MISSED", x, () -> x.bookmark(2, -1));
        x.cancel(0);
        x.erase(0);
        Check.badState("20: ERASED", x, () -> x.bookmark(0, 1));
        x.request(3, 8, 1, 1, 0);
        x.cancel(3);
        Check.badState("20: CANCELLED", x, () -> x.bookmark(3, 1));
        Check.due("21: of one that never ran", x.bookmarkAt(3, 0), -1);
    }

    private static void wrongInputs() {
        TwinTuners x = running();
        x.bookmark(0, 3);
        for (int k : new int[] {-1, 100, Integer.MIN_VALUE, Integer.MAX_VALUE}) {
            Check.badArgument("20: second " + k, x, () -> x.bookmark(0, k));
            Check.outOfBounds("20: second " + k + " of no request", x, () -> x.bookmark(1, k));
        }
        for (int n : new int[] {-1, 1, 40, Integer.MIN_VALUE, Integer.MAX_VALUE}) {
            Check.outOfBounds("20: bookmark " + n, x, () -> x.bookmark(n, 1));
            Check.outOfBounds("21: bookmarkAt " + n, x, () -> x.bookmarkAt(n, 0));
            Check.outOfBounds("21: bookmarkAt " + n + ", -1", x, () -> x.bookmarkAt(n, -1));
        }
    }
}
