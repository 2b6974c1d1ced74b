/** Promises 1 to 4, and the numbers that 'Terms' gives for them: a test for each sentence that names an edge. */
public final class RequestEdgeTest {
    private static final int LEAST = Integer.MIN_VALUE;
    private static final int MOST = Integer.MAX_VALUE;

    public static void main(String[] args) {
        secondsFromZeroOn();
        nothingAtFirst();
        channelIsNone();
        startBeforeNowOrTooFar();
        lengthOneToSixty();
        priorityOneToNine();
        padsZeroToNinetyNine();
        padsAreTensAndOnes();
        twelveWaiting();
        twelveWithRunning();
        whatMakesPlaceForATwelfth();
        fortyInAll();
        argumentBeforeState();
        refusedHasNoNumber();
        cancelWaitingUntilItRuns();
        cancelRunningUntilItsEnd();
        cancelNeither();
        cancelNoSuchRequest();
        stateAtEachTurn();
        stateNoSuchRequest();
        fiveHundredTwelveCalls();
        Check.end();
    }

    private static TwinTuners at(int now) {
        TwinTuners x = new TwinTuners();
        if (now > 0) {
            x.ticks(now);
        }
        return x;
    }

    // Terms: SECONDS are numbered from 0 on; NOW is the number of the next one.
    private static void secondsFromZeroOn() {
        TwinTuners x = new TwinTuners();
        x.request(0, 0, 1, 5, 0);
        Check.due("10: before the first second", x.now(), 0);
        Check.due("8: second 0", x.tick(), 1);
        Check.due("10: behind second 0", x.now(), 1);
        Check.due("5: it ran from second 0", x.planFrom(0), 0);
        Check.due("6: to second 1", x.planTo(0), 1);
    }

    // Promise 1: NOW is 0; no requests; nothing is watched.
    private static void nothingAtFirst() {
        TwinTuners x = new TwinTuners();
        Check.due("1: now", x.now(), 0);
        Check.due("1: free", x.free(), 24);
        Check.due("1: back", x.back(1), TwinTuners.NONE);
        Check.outOfBounds("1: state 0", x, () -> x.state(0));
        Check.due("1: a tick", x.tick(), 0);
        Check.due("1: back behind a tick", x.back(1), TwinTuners.NONE);
        Check.due("1: what was watched", x.watch(TwinTuners.NONE), TwinTuners.NONE);
        Check.due("1: the first number", x.request(0, 1, 1, 1, 0), 0);
    }

    // Promise 2: the channel is none.
    private static void channelIsNone() {
        TwinTuners x = new TwinTuners();
        for (int c : new int[] {-1, 8, LEAST, MOST}) {
            Check.badArgument("2: channel " + c, x, () -> x.request(c, 0, 1, 1, 0));
        }
        Check.due("2: channel 0", x.request(0, 0, 1, 1, 0), 0);
        Check.due("2: channel 7", x.request(7, 0, 1, 1, 0), 1);
        Check.due("8: both", x.tick(), 129);
    }

    // Promise 2: start is before NOW or more than 1000 behind it.
    private static void startBeforeNowOrTooFar() {
        for (int now : new int[] {0, 1, 7}) {
            TwinTuners x = at(now);
            startsAround(x, now);
        }
        TwinTuners x = new TwinTuners();
        x.cut(1000);
        startsAround(x, 1000);
    }

    private static void startsAround(TwinTuners x, int now) {
        for (int start : new int[] {now - 1, now + 1001, LEAST, MOST, MOST - 1000}) {
            Check.badArgument("2: start " + start + " at " + now, x, () -> x.request(0, start, 1, 1, 0));
        }
        Check.due("2: start at NOW", x.request(0, now, 1, 1, 0), 0);
        Check.due("2: start 1000 behind NOW", x.request(0, now + 1000, 1, 1, 0), 1);
        Check.plan("at NOW", x, 0, now, now + 1);
        Check.plan("1000 behind NOW", x, 1, now + 1000, now + 1001);
    }

    // Promise 2: length is not 1 .. 60.
    private static void lengthOneToSixty() {
        TwinTuners x = new TwinTuners();
        for (int length : new int[] {0, 61, -1, LEAST, MOST}) {
            Check.badArgument("2: length " + length, x, () -> x.request(0, 5, length, 1, 0));
        }
        x.request(0, 5, 1, 1, 0);
        x.request(0, 5, 60, 1, 0);
        Check.plan("length 1", x, 0, 5, 6);
        Check.plan("length 60", x, 1, 5, 65);
    }

    // Promise 2: priority not 1 .. 9.
    private static void priorityOneToNine() {
        TwinTuners x = new TwinTuners();
        for (int priority : new int[] {0, 10, -1, LEAST, MOST}) {
            Check.badArgument("2: priority " + priority, x, () -> x.request(0, 5, 1, priority, 0));
        }
        Check.due("2: priority 1", x.request(0, 5, 1, 1, 0), 0);
        Check.due("2: priority 9", x.request(0, 5, 1, 9, 0), 1);
    }

    // Promise 2: pads not 0 .. 99.
    private static void padsZeroToNinetyNine() {
        TwinTuners x = new TwinTuners();
        for (int pads : new int[] {-1, 100, -10, 109, LEAST, MOST}) {
            Check.badArgument("2: pads " + pads, x, () -> x.request(0, 20, 2, 1, pads));
        }
        x.request(0, 20, 2, 1, 0);
        x.request(0, 20, 2, 1, 99);
        Check.plan("no padding", x, 0, 20, 22);
        Check.plan("all padding", x, 1, 11, 31);
    }

    // Promise 2: pads are 10 * BEFORE + AFTER.
    private static void padsAreTensAndOnes() {
        TwinTuners x = new TwinTuners();
        int[] pads = {1, 9, 10, 11, 19, 90, 91};
        for (int i = 0; i < pads.length; i++) {
            x.request(0, 20, 2, 1, pads[i]);
            Check.plan("pads " + pads[i], x, i, 20 - pads[i] / 10, 22 + pads[i] % 10);
        }
    }

    // Promise 2: 12 are WAITING or RUNNING.
    private static void twelveWaiting() {
        TwinTuners x = new TwinTuners();
        for (int i = 0; i < 12; i++) {
            Check.due("2: one of twelve", x.request(i % 8, 50, 1, 1, 0), i);
        }
        Check.badState("2: a thirteenth", x, () -> x.request(0, 50, 1, 1, 0));
        Check.badState("2: a thirteenth of another kind", x, () -> x.request(7, 1000, 60, 9, 99));
    }

    private static void twelveWithRunning() {
        TwinTuners x = new TwinTuners();
        for (int i = 0; i < 12; i++) {
            x.request(i % 2, 0, 2, 1, 0);
        }
        x.tick();
        Check.due("4: the first RUNNING", x.state(0), TwinTuners.RUNNING);
        Check.due("4: the last RUNNING", x.state(11), TwinTuners.RUNNING);
        Check.badState("2: a thirteenth beside twelve RUNNING", x, () -> x.request(0, 50, 1, 1, 0));
        x.tick();
        Check.due("2: when they are FINISHED", x.request(0, 50, 1, 1, 0), 12);
    }

    private static TwinTuners elevenAnd(int channel, int start, int length) {
        TwinTuners x = new TwinTuners();
        x.request(channel, start, length, 1, 0);
        for (int i = 0; i < 11; i++) {
            x.request(i % 2, 1, 60, 2, 0);
        }
        return x;
    }

    private static void place(String what, TwinTuners x) {
        Check.due("2: place when one is " + what, x.request(0, x.now() + 5, 1, 1, 0), 12);
        Check.badState("2: place for just one when one is " + what, x, () -> x.request(0, x.now() + 5, 1, 1, 0));
    }

    private static void whatMakesPlaceForATwelfth() {
        TwinTuners cancelled = elevenAnd(0, 1, 9);
        cancelled.cancel(0);
        place("CANCELLED", cancelled);
        TwinTuners missed = elevenAnd(3, 1, 9);
        missed.tick();
        Check.badState("2: not MISSED yet", missed, () -> missed.request(0, 5, 1, 1, 0));
        missed.tick();
        Check.due("4: MISSED", missed.state(0), TwinTuners.MISSED);
        place("MISSED", missed);
        TwinTuners finished = elevenAnd(0, 0, 2);
        finished.tick();
        Check.badState("2: not FINISHED yet", finished, () -> finished.request(0, 5, 1, 1, 0));
        finished.tick();
        place("FINISHED", finished);
        TwinTuners lost = elevenAnd(0, 0, 9);
        lost.cut(1);
        Check.due("4: MISSED by a cut", lost.state(0), TwinTuners.MISSED);
        place("MISSED by a cut", lost);
    }

    // Promise 2, and Terms (at most 40): or there are 40.
    private static void fortyInAll() {
        TwinTuners x = new TwinTuners();
        for (int i = 0; i < 39; i++) {
            x.request(0, 10, 1, 1, 0);
            x.cancel(i);
        }
        Check.due("2: the fortieth", x.request(0, 10, 1, 1, 0), 39);
        Check.badState("2: a forty-first", x, () -> x.request(0, 10, 1, 1, 0));
        x.cancel(39);
        Check.badState("2: a forty-first with none open", x, () -> x.request(0, 10, 1, 1, 0));
        x.ticks(20);
        Check.badState("2: a forty-first later", x, () -> x.request(0, 30, 1, 1, 0));
        Check.due("4: the fortieth", x.state(39), TwinTuners.CANCELLED);
    }

    // Terms: where it lists more than one exception, the first one wins.
    private static void argumentBeforeState() {
        TwinTuners open = new TwinTuners();
        for (int i = 0; i < 12; i++) {
            open.request(0, 50, 1, 1, 0);
        }
        TwinTuners all = new TwinTuners();
        for (int i = 0; i < 40; i++) {
            all.request(0, 50, 1, 1, 0);
            all.cancel(i);
        }
        int[][] bad = {{8, 5, 1, 1, 0}, {0, 1001, 1, 1, 0}, {0, 5, 61, 1, 0}, {0, 5, 1, 10, 0}, {0, 5, 1, 1, 100}};
        for (int[] b : bad) {
            Check.badArgument("2: bad, beside twelve", open, () -> open.request(b[0], b[1], b[2], b[3], b[4]));
            Check.badArgument("2: bad, beside forty", all, () -> all.request(b[0], b[1], b[2], b[3], b[4]));
        }
    }

    // Terms: a call that throws changes nothing.
    private static void refusedHasNoNumber() {
        TwinTuners x = new TwinTuners();
        Check.due("2: the first", x.request(0, 10, 1, 1, 0), 0);
        Check.badArgument("2: none", x, () -> x.request(0, 10, 0, 1, 0));
        Check.outOfBounds("4: it has no number", x, () -> x.state(1));
        Check.due("2: the next", x.request(0, 10, 1, 1, 0), 1);
    }

    // Promise 3: a WAITING one is CANCELLED.
    private static void cancelWaitingUntilItRuns() {
        TwinTuners x = new TwinTuners();
        x.request(0, 3, 2, 5, 10);
        x.ticks(2);
        x.cancel(0);
        Check.due("3: at what it is planned from", x.state(0), TwinTuners.CANCELLED);
        Check.plan("CANCELLED", x, 0, -1, -1);
        Check.due("8: never tuned", x.tick(), 0);
        TwinTuners y = new TwinTuners();
        y.request(0, 3, 2, 5, 10);
        y.ticks(3);
        y.cancel(0);
        Check.due("3: one second later", y.state(0), TwinTuners.FINISHED);
        Check.plan("FINISHED in its BEFORE", y, 0, 2, 3);
        Check.due("14: that second is kept", y.recorded(0), 1);
        Check.due("8: no longer tuned", y.tick(), 0);
    }

    // Promise 3: a RUNNING one FINISHED, with NOW as its END.
    private static void cancelRunningUntilItsEnd() {
        for (int now = 1; now < 6; now++) {
            TwinTuners x = new TwinTuners();
            x.request(0, 0, 4, 5, 2);
            x.ticks(now);
            x.cancel(0);
            Check.due("3: cancelled at " + now, x.state(0), TwinTuners.FINISHED);
            Check.plan("cancelled at " + now, x, 0, 0, now);
            Check.due("14: cancelled at " + now, x.recorded(0), now);
            Check.due("9: cancelled at " + now, x.ticks(9), 0);
            Check.plan("its END stays", x, 0, 0, now);
        }
        TwinTuners y = new TwinTuners();
        y.request(0, 0, 4, 5, 2);
        y.ticks(6);
        Check.badState("3: at its END", y, () -> y.cancel(0));
        Check.plan("at its END", y, 0, 0, 6);
    }

    // Promise 3: IllegalState: it is neither.
    private static void cancelNeither() {
        TwinTuners x = new TwinTuners();
        x.request(0, 1, 2, 5, 0);
        x.request(1, 1, 2, 5, 0);
        x.request(2, 1, 2, 5, 0);
        x.request(3, 1, 2, 5, 0);
        x.cancel(3);
        x.ticks(3);
        x.erase(1);
        int[] due = {TwinTuners.FINISHED, TwinTuners.ERASED, TwinTuners.MISSED, TwinTuners.CANCELLED};
        for (int n = 0; n < 4; n++) {
            int request = n;
            Check.due("4: of four", x.state(n), due[n]);
            Check.badState("3: cancel in state " + due[n], x, () -> x.cancel(request));
        }
    }

    private static void cancelNoSuchRequest() {
        TwinTuners x = new TwinTuners();
        Check.noSuchRequest("3: cancel, none made,", x, x::cancel);
        x.request(0, 1, 2, 5, 0);
        x.request(0, 1, 2, 5, 0);
        Check.noSuchRequest("3: cancel", x, x::cancel);
        Check.due("3: the other one", x.state(0), TwinTuners.WAITING);
    }

    // Promise 4, by the tick: from which second on it is what.
    private static void stateAtEachTurn() {
        TwinTuners x = new TwinTuners();
        x.request(0, 3, 2, 5, 11);
        x.request(1, 3, 2, 5, 0);
        x.request(2, 3, 2, 4, 0);
        int[] padded = {0, 0, 0, 1, 1, 1, 2, 2};
        int[] plain = {0, 0, 0, 0, 1, 2, 2, 2};
        int[] left = {0, 0, 0, 0, 3, 3, 3, 3};
        for (int now = 0; now < 8; now++) {
            Check.due("4: with padding, at " + now, x.state(0), padded[now]);
            Check.due("4: without, at " + now, x.state(1), plain[now]);
            Check.due("4: no tuner left, at " + now, x.state(2), left[now]);
            x.tick();
        }
    }

    private static void stateNoSuchRequest() {
        TwinTuners x = new TwinTuners();
        Check.noSuchRequest("4: state, none made,", x, x::state);
        for (int i = 0; i < 40; i++) {
            x.request(0, 1, 2, 5, 0);
            Check.noSuchRequest("4: state", x, x::state);
            x.cancel(i);
        }
    }

    // At most 512 calls after it has been made: the last of them still counts, however far NOW has come.
    private static void fiveHundredTwelveCalls() {
        TwinTuners x = new TwinTuners();
        for (int call = 1; call <= 509; call++) {
            x.cut(1000 * call);
        }
        Check.due("2: call 510", x.request(7, 510000, 60, 9, 99), 0);
        Check.due("6: call 511", x.planTo(0), 510069);
        Check.due("10: call 512", x.now(), 509000);
        TwinTuners y = new TwinTuners();
        y.watch(7);
        for (int call = 2; call <= 509; call++) {
            y.ticks(100);
        }
        y.request(7, 50800, 5, 5, 0);
        Check.due("9: call 511", y.ticks(100), 5);
        Check.due("12: call 512", y.back(30), 0);
    }
}
