import java.lang.reflect.InvocationTargetException;

/** A test of its own for each promise of the document, named by its number: what it says, its edges, what it refuses. */
public final class PromiseTest {
    private static final int PROMISES = 22;
    private static final int LEAST = Integer.MIN_VALUE;
    private static final int MOST = Integer.MAX_VALUE;

    public static void main(String[] args) throws ReflectiveOperationException {
        for (int n = 1; n <= PROMISES; n++) {
            int before = Check.faults();
            try {
                PromiseTest.class.getDeclaredMethod("promise" + n).invoke(null);
            } catch (InvocationTargetException e) {
                Check.report(n + ": throws " + e.getCause());
            }
            System.out.println("promise " + n + (Check.faults() == before ? " holds" : " is broken"));
        }
        Check.end();
    }

    // A new object.
    static void promise1() {
        TwinTuners x = new TwinTuners();
        Check.due("1: NOW", x.now(), 0);
        Check.due("1: requests", Check.countRequests(x), 0);
        Check.due("1: free", x.free(), 24);
        Check.due("1: what was watched", x.watch(TwinTuners.NONE), TwinTuners.NONE);
        Check.due("1: tuned", x.tick(), 0);
        Check.due("1: nothing to wind BACK to", x.back(1), TwinTuners.NONE);
        TwinTuners y = new TwinTuners();
        x.request(0, 1, 5, 1, 0);
        x.ticks(3);
        Check.due("1: another object's NOW", y.now(), 0);
        Check.due("1: another object's requests", Check.countRequests(y), 0);
        Check.due("1: another object's disk", y.free(), 24);
    }

    // request
    static void promise2() {
        TwinTuners x = new TwinTuners();
        x.ticks(5);
        int[][] bad = {
            {-1, 5, 1, 1, 0}, {8, 5, 1, 1, 0}, {LEAST, 5, 1, 1, 0}, {MOST, 5, 1, 1, 0},
            {0, 4, 1, 1, 0}, {0, 1006, 1, 1, 0}, {0, LEAST, 1, 1, 0}, {0, MOST, 1, 1, 0},
            {0, 5, 0, 1, 0}, {0, 5, 61, 1, 0}, {0, 5, LEAST, 1, 0}, {0, 5, MOST, 1, 0},
            {0, 5, 1, 0, 0}, {0, 5, 1, 10, 0}, {0, 5, 1, LEAST, 0}, {0, 5, 1, MOST, 0},
            {0, 5, 1, 1, -1}, {0, 5, 1, 1, 100}, {0, 5, 1, 1, LEAST}, {0, 5, 1, 1, MOST},
        };
        for (int i = 0; i < 12; i++) {
            Check.due("2: its number", i % 2 == 0 ? x.request(0, 5, 1, 1, 0) : x.request(7, 1005, 60, 9, 99), i);
            for (int[] b : bad) {
                Check.badArgument("2: request", x, () -> x.request(b[0], b[1], b[2], b[3], b[4]));
            }
        }
        Check.plan("2: no pads", x, 0, 5, 6);
        Check.plan("2: the most of all", x, 1, 996, 1074);
        Check.badState("2: with 12 WAITING", x, () -> x.request(0, 5, 1, 1, 0));
        x.cancel(3);
        Check.due("2: with 11 WAITING", x.request(2, 500, 30, 5, 37), 12);
        Check.plan("2: pads are 10 * BEFORE + AFTER", x, 12, 497, 537);
        for (int i = 13; i < 40; i++) {
            x.cancel(i - 1);
            Check.due("2: one of 40", x.request(0, 6, 1, 1, 0), i);
        }
        x.cancel(39);
        Check.badState("2: with 40", x, () -> x.request(0, 6, 1, 1, 0));
        Check.badArgument("2: a bad one, with 40", x, () -> x.request(8, 6, 1, 1, 0));
    }

    // cancel
    static void promise3() {
        TwinTuners x = oneOfEachState();
        int now = x.now();
        x.cancel(TwinTuners.WAITING);
        Check.due("3: a WAITING one", x.state(TwinTuners.WAITING), TwinTuners.CANCELLED);
        Check.plan("3: CANCELLED", x, TwinTuners.WAITING, -1, -1);
        int recorded = x.recorded(TwinTuners.RUNNING);
        x.cancel(TwinTuners.RUNNING);
        Check.due("3: a RUNNING one", x.state(TwinTuners.RUNNING), TwinTuners.FINISHED);
        Check.due("3: with NOW as its END", x.planTo(TwinTuners.RUNNING), now);
        x.ticks(5);
        Check.due("3: END stays", x.planTo(TwinTuners.RUNNING), now);
        Check.due("3: what was recorded stays", x.recorded(TwinTuners.RUNNING), recorded);
        for (int n = 0; n < 6; n++) {
            int number = n;
            Check.badState("3: cancel one of state " + x.state(n), x, () -> x.cancel(number));
        }
        needsARequest("3: cancel", TwinTuners::cancel);
    }

    // state
    static void promise4() {
        TwinTuners x = oneOfEachState();
        for (int state = TwinTuners.WAITING; state <= TwinTuners.ERASED; state++) {
            Check.due("4: state", x.state(state), state);
        }
        needsARequest("4: state", TwinTuners::state);
    }

    // planFrom
    static void promise5() {
        TwinTuners x = oneOfEachState();
        int[] due = {20, 3, 2, -1, -1, 0};
        for (int state = 0; state < due.length; state++) {
            Check.due("5: of one of state " + state, x.planFrom(state), due[state]);
        }
        x.request(4, 20, 8, 9, 0);
        Check.due("5: planned still", x.planFrom(0), 20);
        x.request(5, 20, 8, 9, 0);
        Check.due("5: not planned", x.planFrom(0), -1);
        TwinTuners y = new TwinTuners();
        y.request(0, 5, 5, 5, 30);
        for (int now = 0; now <= 2; now++) {
            Check.due("5: with its BEFORE, at " + now, y.planFrom(0), 2);
            y.tick();
        }
        y.request(0, 5, 5, 5, 30);
        Check.due("5: its BEFORE would begin before NOW", y.planFrom(1), 5);
        needsARequest("5: planFrom", TwinTuners::planFrom);
    }

    // planTo
    static void promise6() {
        TwinTuners x = oneOfEachState();
        int[] due = {30, 12, 4, -1, -1, 1};
        for (int state = 0; state < due.length; state++) {
            Check.due("6: of one of state " + state, x.planTo(state), due[state]);
        }
        x.request(4, 11, 1, 9, 0);
        Check.due("6: END of a RUNNING one, one tuner left for its AFTER", x.planTo(1), 12);
        x.request(5, 11, 1, 9, 0);
        Check.due("6: END of a RUNNING one, without its AFTER", x.planTo(1), 10);
        x.request(4, 20, 8, 9, 0);
        x.request(5, 20, 8, 9, 0);
        Check.due("6: not planned", x.planTo(0), -1);
        needsARequest("6: planTo", TwinTuners::planTo);
    }

    // air
    static void promise7() {
        TwinTuners x = new TwinTuners();
        for (int c = 0; c < 8; c++) {
            x.watch(c);
            x.tick();
            Check.due("7: at first", x.back(1), 0);
            x.air(c, 10 + c);
            Check.due("7: not the second that is over", x.back(1), 0);
            x.ticks(2);
            Check.due("7: from now on", x.back(2), 10 + c);
            Check.due("7: from now on", x.back(1), 10 + c);
        }
        x.watch(0);
        x.tick();
        Check.due("7: no other channel's", x.back(1), 10);
        for (int c : new int[] {-1, 8, LEAST, MOST}) {
            Check.outOfBounds("7: air of channel " + c, x, () -> x.air(c, 1));
        }
    }

    // tick
    static void promise8() {
        TwinTuners x = new TwinTuners();
        x.request(0, 1, 3, 5, 0);
        x.request(7, 2, 1, 5, 1);
        Check.due("8: nothing tuned", x.tick(), 0);
        x.watch(4);
        Check.due("8: one RUNNING, one watched", x.tick(), 1 + 16);
        Check.due("8: two RUNNING, the watched one not SERVED", x.tick(), 1 + 128);
        x.watch(7);
        Check.due("8: two RUNNING, one of them watched", x.tick(), 1 + 128);
        Check.due("8: the watched one alone", x.tick(), 128);
        x.watch(TwinTuners.NONE);
        Check.due("8: nothing again", x.tick(), 0);
        Check.due("8: six ticks", x.now(), 6);
        Check.due("8: FINISHED by its core's end", x.planTo(0), 4);
        Check.due("8: FINISHED by its AFTER's end", x.planTo(1), 4);
    }

    // ticks
    static void promise9() {
        TwinTuners x = new TwinTuners();
        x.request(0, 1, 3, 5, 0);
        x.request(1, 2, 60, 5, 0);
        Check.due("9: no second recorded", x.ticks(1), 0);
        Check.due("9: one and none", x.ticks(1), 1);
        Check.due("9: of both", x.ticks(2), 4);
        Check.due("9: the rest", x.ticks(100), 58);
        Check.due("9: many TICKS", x.now(), 104);
        for (int many : new int[] {0, 101, -1, LEAST, MOST}) {
            Check.badArgument("9: ticks " + many, x, () -> x.ticks(many));
        }
    }

    // now
    static void promise10() {
        TwinTuners x = new TwinTuners();
        Check.due("10: at first", x.now(), 0);
        x.tick();
        Check.due("10: after a TICK", x.now(), 1);
        x.ticks(99);
        Check.due("10: after 99 more", x.now(), 100);
        x.cut(100);
        Check.due("10: after a cut that takes no time", x.now(), 100);
        x.cut(1100);
        Check.due("10: after the longest cut", x.now(), 1100);
        x.request(0, 1100, 5, 5, 0);
        x.watch(3);
        x.cancel(0);
        Check.due("10: nothing else moves it", x.now(), 1100);
    }

    // watch
    static void promise11() {
        TwinTuners x = new TwinTuners();
        int was = TwinTuners.NONE;
        for (int c : new int[] {0, 7, 7, TwinTuners.NONE, TwinTuners.NONE, 3}) {
            Check.due("11: what was watched before " + c, x.watch(c), was);
            Check.due("11: what is tuned for " + c, x.tick(), c < 0 ? 0 : 1 << c);
            was = c;
        }
        for (int c : new int[] {-2, 8, LEAST, MOST}) {
            Check.outOfBounds("11: watch " + c, x, () -> x.watch(c));
        }
        Check.due("11: watched still", x.tick(), 8);
        Check.due("11: what was watched", x.watch(TwinTuners.NONE), 3);
    }

    // back
    static void promise12() {
        TwinTuners x = new TwinTuners();
        x.watch(6);
        for (int s = 1; s <= 40; s++) {
            x.air(6, -s);
            x.tick();
            for (int k = 1; k <= 31; k++) {
                Check.due("12: " + k + " ago, at " + s, x.back(k), k <= s && k <= 30 ? 4294967296L - s + k - 1 : -1);
            }
        }
        for (int k : new int[] {0, -1, LEAST, MOST}) {
            Check.due("12: back " + k, x.back(k), -1);
        }
        x.request(0, 40, 1, 5, 0);
        x.request(1, 40, 1, 5, 0);
        x.tick();
        Check.due("12: not SERVED", x.back(1), -1);
        x.ticks(2);
        Check.due("12: since then", x.back(2), 4294967296L - 40);
        Check.due("12: not before then", x.back(3), -1);
        x.cut(43);
        Check.due("12: since the power was cut", x.back(1), -1);
        x.tick();
        Check.due("12: watched still", x.back(1), 4294967296L - 40);
        x.watch(6);
        Check.due("12: since watch was called", x.back(1), -1);
    }

    // word
    static void promise13() {
        TwinTuners x = new TwinTuners();
        x.request(2, 3, 5, 5, 11);
        for (int s = 0; s < 10; s++) {
            x.air(2, s - 4);
            x.tick();
        }
        long[] due = {4294967294L, 4294967295L, 0, 1, 2, 3, 4, -1, -1};
        for (int k = 0; k < due.length; k++) {
            Check.due("13: second " + k, x.word(0, k), due[k]);
        }
        for (int k : new int[] {-1, -4, LEAST, MOST}) {
            Check.due("13: second " + k, x.word(0, k), -1);
        }
        needsARequest("13: word", (y, n) -> y.word(n, 0));
        x.erase(0);
        Check.due("13: ERASED", x.word(0, 2), -1);
    }

    // recorded
    static void promise14() {
        TwinTuners x = new TwinTuners();
        x.request(2, 9, 60, 5, 99);
        for (int s = 0; s < 80; s++) {
            Check.due("14: at " + s, x.recorded(0), Math.min(s, 78));
            x.tick();
        }
        needsARequest("14: recorded", TwinTuners::recorded);
        x.erase(0);
        Check.due("14: ERASED", x.recorded(0), 0);
        x.request(2, 80, 10, 5, 0);
        Check.due("14: WAITING", x.recorded(1), 0);
        x.ticks(6);
        x.cut(86);
        Check.due("14: less what was lost", x.recorded(1), 4);
    }

    // shortBy
    static void promise15() {
        TwinTuners x = Check.fullDisk();
        x.request(2, 48, 5, 5, 0);
        x.protect(0, true);
        x.protect(1, true);
        Check.due("15: WAITING", x.shortBy(2), 0);
        for (int s = 1; s <= 4; s++) {
            x.tick();
            Check.due("15: no room, " + s + " times", x.shortBy(2), s);
        }
        Check.due("15: not those with room", x.shortBy(0) + x.shortBy(1), 0);
        x.protect(1, false);
        x.tick();
        Check.due("15: room for the last one", x.shortBy(2), 4);
        Check.due("15: which is recorded", x.recorded(2), 1);
        needsARequest("15: shortBy", TwinTuners::shortBy);
    }

    // protect
    static void promise16() {
        TwinTuners x = Check.fullDisk();
        x.protect(0, true);
        takeOneSegment(x);
        Check.due("16: PROTECTED", x.state(0), TwinTuners.FINISHED);
        Check.due("16: not PROTECTED", x.state(1), TwinTuners.ERASED);
        TwinTuners y = Check.fullDisk();
        y.protect(0, true);
        y.protect(0, false);
        takeOneSegment(y);
        Check.due("16: PROTECTED no more", y.state(0), TwinTuners.ERASED);
        refusesAllButRecordings("16: protect", (z, n) -> z.protect(n, true));
        refusesAllButRecordings("16: protect not", (z, n) -> z.protect(n, false));
    }

    // seen
    static void promise17() {
        TwinTuners x = Check.fullDisk();
        x.seen(1, true);
        takeOneSegment(x);
        Check.due("17: SEEN", x.state(1), TwinTuners.ERASED);
        Check.due("17: not SEEN", x.state(0), TwinTuners.FINISHED);
        TwinTuners y = Check.fullDisk();
        y.seen(1, true);
        y.seen(1, false);
        takeOneSegment(y);
        Check.due("17: SEEN no more", y.state(1), TwinTuners.FINISHED);
        refusesAllButRecordings("17: seen", (z, n) -> z.seen(n, true));
        refusesAllButRecordings("17: seen not", (z, n) -> z.seen(n, false));
    }

    // erase
    static void promise18() {
        TwinTuners x = new TwinTuners();
        x.request(0, 0, 9, 5, 0);
        x.request(1, 0, 8, 5, 0);
        x.ticks(9);
        x.bookmark(0, 3);
        x.protect(0, true);
        Check.due("18: segments free by that", x.erase(0), 3);
        Check.due("18: ERASED", x.state(0), TwinTuners.ERASED);
        Check.due("18: nothing is recorded", x.recorded(0), 0);
        Check.due("18: BOOKMARKS gone", x.bookmarkAt(0, 0), -1);
        Check.due("18: the other one's are not", x.free(), 22);
        Check.due("18: the other one", x.erase(1), 2);
        TwinTuners y = oneOfEachState();
        for (int n : new int[] {TwinTuners.WAITING, TwinTuners.RUNNING, TwinTuners.MISSED, TwinTuners.CANCELLED,
            TwinTuners.ERASED}) {
            Check.badState("18: erase one of state " + n, y, () -> y.erase(n));
        }
        Check.due("18: erase one of state FINISHED", y.erase(TwinTuners.FINISHED), 1);
        needsARequest("18: erase", TwinTuners::erase);
    }

    // free
    static void promise19() {
        TwinTuners x = new TwinTuners();
        x.request(0, 0, 48, 5, 0);
        x.request(1, 0, 48, 5, 0);
        for (int s = 0; s <= 48; s++) {
            Check.due("19: at " + s, x.free(), 24 - 2 * ((s + 3) / 4));
            x.tick();
        }
        x.erase(0);
        Check.due("19: one ERASED", x.free(), 12);
        x.request(2, 49, 9, 5, 0);
        x.ticks(5);
        Check.due("19: two taken", x.free(), 10);
        x.cut(60);
        Check.due("19: one lost", x.free(), 11);
    }

    // bookmark
    static void promise20() {
        TwinTuners x = oneOfEachState();
        for (int request : new int[] {TwinTuners.RUNNING, TwinTuners.FINISHED}) {
            int[] seconds = {50, 99, 50, 0, 0, 7, 8, 99, 6};
            int[] due = {1, 2, 2, 3, 3, 4, 5, 5, 6};
            for (int i = 0; i < seconds.length; i++) {
                Check.due("20: at second " + seconds[i], x.bookmark(request, seconds[i]), due[i]);
            }
            Check.badState("20: it has 6", x, () -> x.bookmark(request, 9));
            for (int k : new int[] {-1, 100, LEAST, MOST}) {
                Check.badArgument("20: second " + k, x, () -> x.bookmark(request, k));
                Check.outOfBounds("20: second " + k + " of no request", x, () -> x.bookmark(6, k));
            }
        }
        refusesAllButRecordings("20: bookmark", (z, n) -> z.bookmark(n, 1));
    }

    // bookmarkAt
    static void promise21() {
        TwinTuners x = oneOfEachState();
        int[] seconds = {50, 99, 0, 7, 8, 6};
        for (int k : seconds) {
            x.bookmark(TwinTuners.RUNNING, k);
        }
        int[] due = {0, 6, 7, 8, 50, 99, -1};
        for (int i = 0; i < due.length; i++) {
            Check.due("21: number " + i, x.bookmarkAt(TwinTuners.RUNNING, i), due[i]);
        }
        for (int i : new int[] {-1, 7, LEAST, MOST}) {
            Check.due("21: number " + i, x.bookmarkAt(TwinTuners.RUNNING, i), -1);
        }
        Check.due("21: a FINISHED one has none", x.bookmarkAt(TwinTuners.FINISHED, 0), -1);
        Check.due("21: a WAITING one has none", x.bookmarkAt(TwinTuners.WAITING, 0), -1);
        needsARequest("21: bookmarkAt", (y, n) -> y.bookmarkAt(n, 0));
    }

    // cut
    static void promise22() {
        for (int t = 7; t <= 13; t++) {
            TwinTuners x = new TwinTuners();
            x.request(0, 0, 10, 5, 3);
            x.request(1, 0, 4, 5, 9);
            x.request(1, 10, 2, 5, 20);
            x.ticks(7);
            Check.due("22: lost, back at " + t, x.cut(t), 3 + 3);
            Check.due("22: NOW", x.now(), t);
            Check.due("22: free", x.free(), 22);
            Check.due("22: in its core", x.state(0), t >= 10 ? TwinTuners.FINISHED : TwinTuners.RUNNING);
            Check.due("22: its END", x.planTo(0), t >= 10 ? 10 : 13);
            Check.due("22: in its AFTER", x.state(1), TwinTuners.FINISHED);
            Check.due("22: its END", x.planTo(1), 7);
            Check.due("22: WAITING", x.state(2), t > 10 ? TwinTuners.MISSED : TwinTuners.WAITING);
            Check.due("22: whole segments stay", x.recorded(0) + x.recorded(1), 8);
        }
        TwinTuners y = new TwinTuners();
        y.request(0, 0, 60, 5, 0);
        y.ticks(8);
        Check.due("22: no segment has begun", y.cut(8), 0);
        for (int t : new int[] {7, 1009, -1, LEAST, MOST}) {
            Check.badArgument("22: cut to " + t, y, () -> y.cut(t));
        }
        Check.due("22: to the farthest", y.cut(1008), 0);
    }

    /** Six requests, each in the state whose value is its number. */
    private static TwinTuners oneOfEachState() {
        TwinTuners x = new TwinTuners();
        x.request(0, 20, 8, 5, 2);
        x.request(1, 3, 7, 9, 2);
        x.request(2, 2, 2, 9, 0);
        x.request(0, 3, 2, 1, 0);
        x.request(3, 30, 2, 1, 0);
        x.request(3, 0, 1, 9, 0);
        x.cancel(4);
        x.ticks(5);
        x.erase(5);
        return x;
    }

    private static void takeOneSegment(TwinTuners x) {
        x.request(2, x.now(), 1, 5, 0);
        x.tick();
    }

    private interface Call {
        void on(TwinTuners x, int request);
    }

    private static void refusesAllButRecordings(String what, Call mark) {
        TwinTuners x = oneOfEachState();
        for (int n : new int[] {TwinTuners.WAITING, TwinTuners.MISSED, TwinTuners.CANCELLED, TwinTuners.ERASED}) {
            Check.badState(what + " one of state " + n, x, () -> mark.on(x, n));
        }
        for (int n : new int[] {TwinTuners.RUNNING, TwinTuners.FINISHED}) {
            Check.taken(what + " one of state " + n, () -> mark.on(x, n));
        }
        needsARequest(what, mark);
    }

    private static void needsARequest(String what, Call call) {
        TwinTuners none = new TwinTuners();
        Check.outOfBounds(what + " of request 0, when there is none", none, () -> call.on(none, 0));
        TwinTuners six = oneOfEachState();
        for (int n : new int[] {-1, 6, 40, LEAST, MOST}) {
            Check.outOfBounds(what + " of request " + n, six, () -> call.on(six, n));
        }
    }
}
