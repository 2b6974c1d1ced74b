/** Whom room is made of, and promises 16, 17, 20 and 21: a test for each sentence that names an edge. */
public final class MarksEdgeTest {
    private static final int LEAST = Integer.MIN_VALUE;
    private static final int MOST = Integer.MAX_VALUE;

    public static void main(String[] args) {
        notProtected();
        seenFirst();
        ofSeveralSeenTheLeastEnd();
        thenTheLeastNumberSeen();
        noneSeenTheLeastPriority();
        thenTheLeastEnd();
        thenTheLeastNumber();
        endByCancelAndCut();
        marksOnAndOff();
        marksFromTheFirstSecondOn();
        marksOfNeither();
        marksNoSuchRequest();
        bookmarkSeconds();
        bookmarkIfThereIsNone();
        sixBookmarks();
        bookmarkOfNeither();
        firstExceptionFirst();
        bookmarkNoSuchRequest();
        bookmarkAtFromTheLeastOn();
        bookmarkAtNoneSuch();
        bookmarkAtNoSuchRequest();
        Check.end();
    }

    /** Three recordings of eight segments each; their ENDs are 32 each, but for what later says. */
    private static TwinTuners three(int[] priorities, int[] later) {
        TwinTuners x = new TwinTuners();
        for (int n = 0; n < 3; n++) {
            x.request(n % 2, 5 + later[n], 32, priorities[n], 0);
        }
        x.ticks(60);
        Check.due("19: full", x.free(), 0);
        return x;
    }

    private static void goes(String what, TwinTuners x, int number) {
        x.request(7, x.now(), 1, 9, 0);
        x.tick();
        for (int n = 0; n < 3; n++) {
            Check.due("4: " + what + ", number " + n, x.state(n), n == number ? TwinTuners.ERASED : TwinTuners.FINISHED);
        }
        Check.due("15: " + what, x.shortBy(3), number < 0 ? 1 : 0);
        Check.due("19: " + what, x.free(), number < 0 ? 0 : 7);
    }

    private static TwinTuners alike() {
        return three(new int[] {5, 5, 5}, new int[] {0, 0, 0});
    }

    // Terms: that are not PROTECTED.
    private static void notProtected() {
        for (int bits = 0; bits < 8; bits++) {
            TwinTuners x = alike();
            for (int n = 0; n < 3; n++) {
                x.protect(n, (bits >> n & 1) == 1);
                x.seen(n, (bits >> n & 1) == 1);
            }
            goes("PROTECTED " + bits, x, bits == 7 ? -1 : Integer.numberOfTrailingZeros(~bits));
        }
    }

    // Terms: the one that is SEEN.
    private static void seenFirst() {
        for (int n = 0; n < 3; n++) {
            int[] priorities = {1, 1, 1};
            int[] later = {0, 0, 0};
            priorities[n] = 9;
            later[n] = 1;
            TwinTuners x = three(priorities, later);
            x.seen(n, true);
            goes("SEEN " + n, x, n);
        }
    }

    // Terms: of several that with the least END.
    private static void ofSeveralSeenTheLeastEnd() {
        for (int n = 0; n < 3; n++) {
            int[] priorities = {1, 1, 1};
            int[] later = {1, 1, 1};
            priorities[n] = 9;
            later[n] = 0;
            TwinTuners x = three(priorities, later);
            for (int each = 0; each < 3; each++) {
                x.seen(each, true);
            }
            goes("all SEEN, END one less of " + n, x, n);
            TwinTuners y = three(priorities, later);
            y.seen(n == 0 ? 1 : 0, true);
            y.seen(n == 2 ? 1 : 2, true);
            goes("all SEEN but " + n, y, n == 0 ? 1 : 0);
        }
    }

    // Terms: then the least number.
    private static void thenTheLeastNumberSeen() {
        TwinTuners x = three(new int[] {9, 5, 1}, new int[] {0, 0, 0});
        for (int n = 0; n < 3; n++) {
            x.seen(n, true);
        }
        goes("all SEEN with one END", x, 0);
        TwinTuners y = three(new int[] {1, 9, 5}, new int[] {0, 0, 0});
        y.seen(2, true);
        y.seen(1, true);
        goes("two SEEN with one END", y, 1);
    }

    // Terms: if none is SEEN, that of the least priority.
    private static void noneSeenTheLeastPriority() {
        for (int least = 1; least <= 8; least++) {
            for (int n = 0; n < 3; n++) {
                int[] priorities = {least + 1, least + 1, least + 1};
                int[] later = {0, 0, 0};
                priorities[n] = least;
                later[n] = 1;
                goes("priority " + least + " of " + n, three(priorities, later), n);
            }
        }
    }

    // Terms: then the least END.
    private static void thenTheLeastEnd() {
        for (int n = 0; n < 3; n++) {
            int[] later = {1, 1, 1};
            later[n] = 0;
            goes("END one less of " + n, three(new int[] {5, 5, 5}, later), n);
        }
        goes("END one less, but the priority is higher", three(new int[] {4, 5, 4}, new int[] {1, 0, 1}), 0);
    }

    // Terms: then the least number.
    private static void thenTheLeastNumber() {
        goes("alike", alike(), 0);
        goes("the latter two alike", three(new int[] {6, 5, 5}, new int[] {0, 0, 0}), 1);
    }

    private static void endByCancelAndCut() {
        TwinTuners x = new TwinTuners();
        x.request(0, 0, 48, 5, 0);
        x.request(1, 0, 49, 5, 0);
        x.ticks(45);
        x.cancel(1);
        x.ticks(3);
        x.request(2, 48, 1, 5, 0);
        x.tick();
        Check.due("4: END 45 by cancel", x.state(1), TwinTuners.ERASED);
        TwinTuners y = new TwinTuners();
        y.request(0, 0, 49, 5, 0);
        y.request(1, 0, 48, 5, 0);
        y.ticks(48);
        y.cut(60);
        Check.plan("END by a cut", y, 0, 0, 49);
        y.request(2, 60, 1, 5, 0);
        y.tick();
        Check.due("4: END 49 by a cut", y.state(0), TwinTuners.FINISHED);
        Check.due("4: END 48", y.state(1), TwinTuners.ERASED);
    }

    // Promises 16 and 17: a recording is PROTECTED (SEEN), or not.
    private static void marksOnAndOff() {
        TwinTuners x = alike();
        x.protect(0, true);
        x.protect(0, true);
        x.protect(0, false);
        goes("no longer PROTECTED", x, 0);
        TwinTuners y = alike();
        y.seen(2, true);
        y.seen(2, true);
        y.seen(2, false);
        goes("no longer SEEN", y, 0);
        TwinTuners z = alike();
        z.protect(0, false);
        z.protect(0, true);
        z.seen(1, false);
        z.seen(2, true);
        z.protect(2, true);
        goes("one left", z, 1);
    }

    // Promises 16 and 17: it is neither RUNNING nor FINISHED.
    private static void marksFromTheFirstSecondOn() {
        TwinTuners x = new TwinTuners();
        x.request(0, 1, 48, 5, 0);
        x.request(1, 1, 48, 5, 0);
        x.tick();
        Check.badState("16: WAITING at its start", x, () -> x.protect(0, true));
        Check.badState("17: WAITING at its start", x, () -> x.seen(1, true));
        x.tick();
        x.protect(0, true);
        x.seen(0, true);
        x.ticks(47);
        Check.due("4: FINISHED", x.state(0), TwinTuners.FINISHED);
        x.request(2, 49, 1, 5, 0);
        x.tick();
        Check.due("16: PROTECTED since its first second", x.state(0), TwinTuners.FINISHED);
        Check.due("16: not PROTECTED", x.state(1), TwinTuners.ERASED);
    }

    private static TwinTuners ofEachState() {
        TwinTuners x = new TwinTuners();
        x.request(0, 90, 2, 5, 0);
        x.request(1, 1, 9, 5, 0);
        x.request(2, 1, 1, 5, 0);
        x.request(3, 1, 2, 4, 0);
        x.request(4, 2, 2, 5, 0);
        x.request(5, 2, 1, 5, 0);
        x.cancel(4);
        x.ticks(4);
        x.erase(5);
        for (int state = 0; state < 6; state++) {
            Check.due("4: of each state", x.state(state), state);
        }
        return x;
    }

    private static void marksOfNeither() {
        TwinTuners x = ofEachState();
        for (int n : new int[] {TwinTuners.WAITING, TwinTuners.MISSED, TwinTuners.CANCELLED, TwinTuners.ERASED}) {
            for (boolean on : new boolean[] {true, false}) {
                Check.badState("16: protect in state " + n, x, () -> x.protect(n, on));
                Check.badState("17: seen in state " + n, x, () -> x.seen(n, on));
            }
        }
        for (int n : new int[] {TwinTuners.RUNNING, TwinTuners.FINISHED}) {
            for (boolean on : new boolean[] {true, false}) {
                Check.taken("16: protect in state " + n, () -> x.protect(n, on));
                Check.taken("17: seen in state " + n, () -> x.seen(n, on));
            }
        }
    }

    private static void marksNoSuchRequest() {
        TwinTuners x = new TwinTuners();
        for (boolean on : new boolean[] {true, false}) {
            Check.noSuchRequest("16: protect, none made,", x, n -> x.protect(n, on));
            Check.noSuchRequest("17: seen, none made,", x, n -> x.seen(n, on));
        }
        x.request(0, 0, 1, 5, 0);
        x.request(0, 0, 1, 5, 0);
        x.tick();
        for (boolean on : new boolean[] {true, false}) {
            Check.noSuchRequest("16: protect", x, n -> x.protect(n, on));
            Check.noSuchRequest("17: seen", x, n -> x.seen(n, on));
        }
    }

    private static TwinTuners running() {
        TwinTuners x = new TwinTuners();
        x.request(0, 0, 5, 5, 0);
        x.tick();
        return x;
    }

    // Promise 20: k is not 0 .. 99.
    private static void bookmarkSeconds() {
        TwinTuners x = running();
        for (int k : new int[] {-1, 100, LEAST, MOST}) {
            Check.badArgument("20: second " + k, x, () -> x.bookmark(0, k));
        }
        Check.due("20: second 99, which is not recorded", x.bookmark(0, 99), 1);
        Check.due("20: second 0", x.bookmark(0, 0), 2);
        Check.due("21: the least", x.bookmarkAt(0, 0), 0);
        Check.due("21: the most", x.bookmarkAt(0, 1), 99);
    }

    // Promise 20: a bookmark at second k, if there is none: how many there are.
    private static void bookmarkIfThereIsNone() {
        TwinTuners x = running();
        for (int many = 1; many <= 5; many++) {
            Check.due("20: a new one", x.bookmark(0, 10 * many), many);
            for (int again = 1; again <= many; again++) {
                Check.due("20: one that is there", x.bookmark(0, 10 * again), many);
            }
        }
        Check.due("20: beside one", x.bookmark(0, 11), 6);
        int[] due = {10, 11, 20, 30, 40, 50, -1};
        for (int i = 0; i < due.length; i++) {
            Check.due("21: number " + i, x.bookmarkAt(0, i), due[i]);
        }
    }

    // Promise 20: or has 6.
    private static void sixBookmarks() {
        TwinTuners x = running();
        for (int i = 0; i < 5; i++) {
            x.bookmark(0, 2 * i);
        }
        Check.due("20: one of five again", x.bookmark(0, 4), 5);
        Check.due("20: the sixth", x.bookmark(0, 50), 6);
        Check.badState("20: a seventh", x, () -> x.bookmark(0, 60));
        Check.badState("20: a seventh before all", x, () -> x.bookmark(0, 1));
        Check.badState("20: one of six again", x, () -> x.bookmark(0, 50));
        x.ticks(9);
        Check.badState("20: a seventh of a FINISHED one", x, () -> x.bookmark(0, 60));
        x.request(0, 20, 1, 5, 0);
        x.ticks(20);
        Check.due("20: another recording's first", x.bookmark(1, 60), 1);
    }

    // Promise 20: it is neither RUNNING nor FINISHED.
    private static void bookmarkOfNeither() {
        TwinTuners x = ofEachState();
        for (int n : new int[] {TwinTuners.WAITING, TwinTuners.MISSED, TwinTuners.CANCELLED, TwinTuners.ERASED}) {
            Check.badState("20: in state " + n, x, () -> x.bookmark(n, 0));
            Check.badState("20: in state " + n, x, () -> x.bookmark(n, 99));
            Check.due("21: in state " + n, x.bookmarkAt(n, 0), -1);
        }
        Check.due("20: RUNNING", x.bookmark(TwinTuners.RUNNING, 0), 1);
        Check.due("20: FINISHED", x.bookmark(TwinTuners.FINISHED, 0), 1);
    }

    // Terms: where it lists more than one exception, the first one wins.
    private static void firstExceptionFirst() {
        TwinTuners x = ofEachState();
        for (int k : new int[] {-1, 100}) {
            for (int n : new int[] {-1, 6}) {
                Check.outOfBounds("20: no request, no second", x, () -> x.bookmark(n, k));
            }
            for (int n = 0; n < 6; n++) {
                int request = n;
                Check.badArgument("20: no second in state " + n, x, () -> x.bookmark(request, k));
            }
        }
        for (int k = 0; k < 6; k++) {
            x.bookmark(1, k);
        }
        Check.badArgument("20: no second, and six", x, () -> x.bookmark(1, 100));
        Check.badArgument("20: no second, and six", x, () -> x.bookmark(1, -1));
        Check.badState("20: six", x, () -> x.bookmark(1, 99));
    }

    private static void bookmarkNoSuchRequest() {
        TwinTuners x = new TwinTuners();
        Check.noSuchRequest("20: bookmark, none made,", x, n -> x.bookmark(n, 0));
        x.request(0, 0, 1, 5, 0);
        x.request(0, 0, 1, 5, 0);
        x.tick();
        Check.noSuchRequest("20: bookmark", x, n -> x.bookmark(n, 0));
    }

    // Promise 21: the i-th bookmark, from the least on (0).
    private static void bookmarkAtFromTheLeastOn() {
        int[][] orders = {{1, 2, 3, 4, 5, 6}, {6, 5, 4, 3, 2, 1}, {3, 6, 1, 5, 2, 4}, {4, 1, 6, 2, 5, 3}};
        for (int[] order : orders) {
            TwinTuners x = running();
            for (int k : order) {
                x.bookmark(0, k);
            }
            for (int i = 0; i < 6; i++) {
                Check.due("21: number " + i, x.bookmarkAt(0, i), i + 1);
            }
        }
    }

    // Promise 21: NONE if there is none such.
    private static void bookmarkAtNoneSuch() {
        TwinTuners x = running();
        for (int many = 0; many <= 6; many++) {
            if (many > 0) {
                x.bookmark(0, many);
                Check.due("21: the last of " + many, x.bookmarkAt(0, many - 1), many);
            }
            for (int i : new int[] {-1, many, many + 1, 6, 7, LEAST, MOST}) {
                Check.due("21: number " + i + " of " + many, x.bookmarkAt(0, i), -1);
            }
        }
    }

    private static void bookmarkAtNoSuchRequest() {
        TwinTuners x = new TwinTuners();
        Check.noSuchRequest("21: bookmarkAt, none made,", x, n -> x.bookmarkAt(n, 0));
        x.request(0, 0, 1, 5, 0);
        x.request(0, 0, 1, 5, 0);
        Check.noSuchRequest("21: bookmarkAt", x, n -> x.bookmarkAt(n, 0));
        Check.noSuchRequest("21: bookmarkAt -1", x, n -> x.bookmarkAt(n, -1));
        Check.noSuchRequest("21: bookmarkAt 6", x, n -> x.bookmarkAt(n, 6));
    }
}
