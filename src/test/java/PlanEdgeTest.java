/** The plan at NOW and promises 5 and 6: a test for each sentence that names an edge. */
public final class PlanEdgeTest {
    public static void main(String[] args) {
        twoChannelsFit();
        oneSecondIsEnough();
        runningTakesToItsCoreEnd();
        runningPastItsCoreTakesToItsEnd();
        madeAnewEachTime();
        nineFirst();
        thenByNumber();
        afterAllOfIt();
        afterOfRunningAllOfIt();
        afterOfRunningWhileCoreEndIsBehindNow();
        beforeNotBeforeNow();
        beforeNotBeforeNowLater();
        beforeAllOfIt();
        beforeThoughAfterDoesNotFit();
        afterFirstThenBefore();
        paddingsMeetInOneSecond();
        endOfOneJustBegun();
        runningPaddingBeforeWaitingPadding();
        runningHasNoBeforeAnew();
        noPaddingWithoutCore();
        twelvePlanned();
        plannedFromByState();
        plannedToByState();
        noSuchRequest();
        Check.end();
    }

    /** Channel 7 is taken from 0 to 59, so that one tuner is left. */
    private static TwinTuners oneTuner() {
        TwinTuners x = new TwinTuners();
        x.request(7, 0, 60, 9, 0);
        return x;
    }

    // FIT: in none of them more than two different channels are taken.
    private static void twoChannelsFit() {
        TwinTuners x = new TwinTuners();
        x.request(0, 10, 5, 5, 0);
        Check.plan("one channel", x, 0, 10, 15);
        x.request(1, 10, 5, 5, 0);
        Check.plan("two channels", x, 1, 10, 15);
        x.request(2, 10, 5, 5, 0);
        Check.plan("three channels", x, 2, -1, -1);
        x.request(0, 10, 5, 5, 0);
        x.request(1, 10, 5, 5, 0);
        Check.plan("one of the two again", x, 3, 10, 15);
        Check.plan("the other one again", x, 4, 10, 15);
    }

    private static void oneSecondIsEnough() {
        for (int start = 14; start <= 26; start++) {
            TwinTuners x = oneTuner();
            x.request(0, 20, 3, 9, 0);
            x.request(1, start, 4, 8, 0);
            boolean fits = start + 4 <= 20 || start >= 23;
            Check.plan("from " + start + " beside 20 to 22", x, 2, fits ? start : -1, fits ? start + 4 : -1);
        }
        for (int length : new int[] {10, 11, 12, 60}) {
            TwinTuners x = oneTuner();
            x.request(0, 20, 1, 9, 0);
            x.request(1, 10, length, 8, 0);
            Check.plan(length + " long, second 20 taken", x, 2, length == 10 ? 10 : -1, length == 10 ? 20 : -1);
        }
    }

    // 1. Each RUNNING request takes the seconds from NOW to the end of its core.
    private static void runningTakesToItsCoreEnd() {
        TwinTuners x = oneTuner();
        x.request(0, 3, 4, 1, 33);
        x.tick();
        Check.due("4: RUNNING in its BEFORE", x.state(1), TwinTuners.RUNNING);
        x.request(1, 1, 2, 9, 0);
        x.request(2, 6, 2, 9, 0);
        x.request(3, 7, 2, 9, 0);
        Check.plan("in the BEFORE of a RUNNING one", x, 2, -1, -1);
        Check.plan("in the last second of its core", x, 3, -1, -1);
        Check.plan("from its core's end on", x, 4, 7, 9);
        Check.plan("the RUNNING one", x, 1, 0, 7);
    }

    // 1. If that is not behind NOW, to its END.
    private static void runningPastItsCoreTakesToItsEnd() {
        TwinTuners before = inCoreUntil(2);
        before.request(2, 5, 2, 9, 0);
        Check.plan("core's end one behind NOW: the core of another", before, 2, 5, 7);
        Check.plan("core's end one behind NOW: END", before, 0, 0, 3);
        TwinTuners at = inCoreUntil(3);
        at.request(2, 7, 2, 9, 0);
        Check.plan("core's end at NOW: in the last second of its AFTER", at, 2, -1, -1);
        Check.plan("core's end at NOW: END", at, 0, 0, 8);
        at.request(3, 8, 2, 9, 0);
        Check.plan("core's end at NOW: from its END on", at, 3, 8, 10);
        TwinTuners past = inCoreUntil(7);
        past.request(2, 7, 2, 9, 0);
        Check.plan("the last second before its END", past, 2, -1, -1);
        past.request(3, 8, 2, 9, 0);
        Check.plan("from its END on", past, 3, 8, 10);
        past.tick();
        Check.due("4: FINISHED at its END", past.state(0), TwinTuners.FINISHED);
        Check.due("4: MISSED", past.state(2), TwinTuners.MISSED);
    }

    private static TwinTuners inCoreUntil(int now) {
        TwinTuners x = new TwinTuners();
        x.request(0, 0, 3, 1, 5);
        x.request(1, 0, 20, 1, 0);
        x.ticks(now);
        Check.due("4: RUNNING at " + now, x.state(0), TwinTuners.RUNNING);
        return x;
    }

    // THE PLAN at NOW: nothing of an earlier one is left in it.
    private static void madeAnewEachTime() {
        TwinTuners x = oneTuner();
        x.request(0, 20, 5, 5, 22);
        Check.plan("alone", x, 1, 18, 27);
        x.request(1, 24, 5, 6, 0);
        Check.plan("pushed out", x, 1, -1, -1);
        x.request(2, 20, 5, 4, 0);
        Check.plan("nor does it stand in another's way", x, 3, -1, -1);
        x.cancel(2);
        Check.plan("planned again", x, 1, 18, 27);
        x.cancel(1);
        Check.plan("the other one", x, 3, 20, 25);
    }

    // 2. Each WAITING one, by priority (9 first).
    private static void nineFirst() {
        for (int priority = 1; priority <= 8; priority++) {
            TwinTuners x = oneTuner();
            x.request(0, 20, 5, priority, 0);
            x.request(1, 20, 5, priority + 1, 0);
            Check.plan("priority " + priority, x, 1, -1, -1);
            Check.plan("priority " + (priority + 1), x, 2, 20, 25);
        }
    }

    // 2. Then by number.
    private static void thenByNumber() {
        for (int priority = 1; priority <= 9; priority++) {
            TwinTuners x = oneTuner();
            for (int c = 0; c < 5; c++) {
                x.request(c, 20, 5, priority, 0);
            }
            for (int n = 1; n <= 5; n++) {
                Check.plan("number " + n + " of one priority", x, n, n == 1 ? 20 : -1, n == 1 ? 25 : -1);
            }
        }
    }

    // 3. Takes its padding AFTER, if that fits, all of it.
    private static void afterAllOfIt() {
        for (int after = 0; after <= 9; after++) {
            for (int gap = 0; gap <= 10; gap++) {
                TwinTuners x = oneTuner();
                x.request(0, 20, 5, 5, after);
                x.request(1, 25 + gap, 3, 5, 0);
                Check.plan("AFTER " + after + " in " + gap, x, 1, 20, after <= gap ? 25 + after : 25);
                Check.plan("the one behind it", x, 2, 25 + gap, 28 + gap);
            }
        }
    }

    private static void afterOfRunningAllOfIt() {
        for (int gap = 0; gap <= 6; gap++) {
            TwinTuners x = oneTuner();
            x.request(0, 0, 5, 5, 4);
            x.tick();
            x.request(1, 5 + gap, 3, 5, 0);
            Check.plan("AFTER 4 of a RUNNING one in " + gap, x, 1, 0, gap >= 4 ? 9 : 5);
        }
    }

    // 3. Each RUNNING one whose core's end is behind NOW.
    private static void afterOfRunningWhileCoreEndIsBehindNow() {
        for (int cancelled = 1; cancelled <= 6; cancelled++) {
            TwinTuners x = oneTuner();
            x.request(0, 0, 5, 5, 4);
            x.request(1, 7, 3, 5, 0);
            x.ticks(cancelled);
            x.cancel(2);
            boolean inTime = cancelled < 5;
            Check.plan("room for its AFTER at " + cancelled, x, 1, 0, inTime ? 9 : 5);
            x.ticks(9);
            Check.due("14: room for its AFTER at " + cancelled, x.recorded(1), inTime ? 9 : 5);
        }
    }

    // 3. Its padding BEFORE does not begin before NOW.
    private static void beforeNotBeforeNow() {
        for (int before = 0; before <= 9; before++) {
            for (int start = 0; start <= 10; start++) {
                TwinTuners x = new TwinTuners();
                x.request(0, start, 3, 5, 10 * before);
                Check.plan("BEFORE " + before + " of " + start, x, 0, before <= start ? start - before : start, start + 3);
            }
        }
    }

    private static void beforeNotBeforeNowLater() {
        for (int cancelled = 0; cancelled <= 8; cancelled++) {
            TwinTuners x = oneTuner();
            x.request(0, 8, 3, 5, 30);
            x.request(1, 0, 8, 9, 0);
            if (cancelled > 0) {
                x.ticks(cancelled);
            }
            if (cancelled < 8) {
                x.cancel(2);
            }
            Check.plan("room for its BEFORE at " + cancelled, x, 1, cancelled <= 5 ? 5 : 8, 11);
        }
    }

    // 3. Takes that, if it fits, all of it.
    private static void beforeAllOfIt() {
        for (int before = 0; before <= 9; before++) {
            for (int gap = 0; gap <= 10; gap++) {
                TwinTuners x = oneTuner();
                x.request(0, 30, 5, 5, 10 * before);
                x.request(1, 27 - gap, 3, 5, 0);
                Check.plan("BEFORE " + before + " in " + gap, x, 1, before <= gap ? 30 - before : 30, 35);
            }
        }
    }

    private static void beforeThoughAfterDoesNotFit() {
        TwinTuners x = oneTuner();
        x.request(0, 20, 5, 5, 22);
        x.request(1, 26, 5, 5, 0);
        Check.plan("BEFORE alone", x, 1, 18, 25);
        x.request(2, 18, 1, 5, 0);
        Check.plan("neither", x, 1, 20, 25);
        x.cancel(2);
        Check.plan("AFTER alone", x, 1, 20, 27);
        x.cancel(3);
        Check.plan("both", x, 1, 18, 27);
    }

    // 3. In the same order: takes its padding AFTER; then its padding BEFORE.
    private static void afterFirstThenBefore() {
        TwinTuners x = oneTuner();
        x.request(0, 20, 5, 5, 3);
        x.request(1, 28, 5, 5, 30);
        Check.plan("the lower number's AFTER", x, 1, 20, 28);
        Check.plan("the higher number's BEFORE", x, 2, 28, 33);
        TwinTuners y = oneTuner();
        y.request(0, 28, 5, 5, 30);
        y.request(1, 20, 5, 5, 3);
        Check.plan("the lower number's BEFORE", y, 1, 25, 33);
        Check.plan("the higher number's AFTER", y, 2, 20, 25);
        TwinTuners z = oneTuner();
        z.request(0, 20, 5, 5, 3);
        z.request(1, 28, 5, 6, 30);
        Check.plan("the higher priority's BEFORE", z, 2, 25, 33);
        Check.plan("the lower priority's AFTER", z, 1, 20, 25);
    }

    // 3. If that fits, all of it: beside paddings that were taken before, too.
    private static void paddingsMeetInOneSecond() {
        for (int gap = 4; gap <= 8; gap++) {
            TwinTuners x = oneTuner();
            x.request(0, 20, 5, 5, 3);
            x.request(1, 25 + gap, 5, 6, 30);
            Check.plan("BEFORE taken first, gap " + gap, x, 2, 22 + gap, 30 + gap);
            Check.plan("AFTER then, gap " + gap, x, 1, 20, gap >= 6 ? 28 : 25);
            TwinTuners y = oneTuner();
            y.request(0, 20, 5, 6, 3);
            y.request(1, 25 + gap, 5, 5, 30);
            Check.plan("AFTER taken first, gap " + gap, y, 1, 20, 28);
            Check.plan("BEFORE then, gap " + gap, y, 2, gap >= 6 ? 22 + gap : 25 + gap, 30 + gap);
        }
    }

    // A TICK: planned from NOW on, RUNNING with FROM and END by it; with a core of one second that END is the last word.
    private static void endOfOneJustBegun() {
        for (int after = 0; after <= 9; after++) {
            TwinTuners x = new TwinTuners();
            x.request(0, 0, 1, 5, after);
            x.tick();
            Check.due("4: AFTER " + after, x.state(0), after > 0 ? TwinTuners.RUNNING : TwinTuners.FINISHED);
            Check.plan("AFTER " + after, x, 0, 0, 1 + after);
            Check.due("9: AFTER " + after, x.ticks(20), after);
            Check.plan("AFTER " + after + ", FINISHED", x, 0, 0, 1 + after);
        }
    }

    // 3. Each RUNNING one, then each WAITING one.
    private static void runningPaddingBeforeWaitingPadding() {
        TwinTuners x = oneTuner();
        x.request(0, 1, 5, 1, 3);
        x.request(1, 9, 5, 9, 30);
        x.tick();
        Check.plan("both WAITING: priority 9", x, 2, 6, 14);
        Check.plan("both WAITING: priority 1", x, 1, 1, 6);
        x.tick();
        Check.plan("one RUNNING: priority 1", x, 1, 1, 9);
        Check.plan("one RUNNING: priority 9", x, 2, 9, 14);
    }

    // 3. Then, if it is WAITING.
    private static void runningHasNoBeforeAnew() {
        TwinTuners x = new TwinTuners();
        x.request(0, 9, 5, 5, 30);
        x.ticks(7);
        Check.plan("RUNNING in its BEFORE", x, 0, 6, 14);
        x.ticks(3);
        Check.plan("RUNNING in its core", x, 0, 6, 14);
        TwinTuners y = oneTuner();
        y.request(0, 2, 5, 5, 30);
        y.ticks(3);
        Check.plan("began without its BEFORE", y, 1, 2, 7);
    }

    // 3. Each WAITING one that took its core.
    private static void noPaddingWithoutCore() {
        TwinTuners x = oneTuner();
        x.request(0, 20, 5, 5, 0);
        x.request(1, 24, 5, 4, 99);
        x.request(2, 29, 2, 3, 30);
        Check.plan("no core", x, 2, -1, -1);
        Check.plan("its padding is not taken", x, 3, 26, 31);
        x.ticks(24);
        Check.due("8: not RUNNING in its AFTER or BEFORE", x.tick(), 1 + 128);
        Check.due("4: MISSED", x.state(2), TwinTuners.MISSED);
    }

    private static void twelvePlanned() {
        TwinTuners x = new TwinTuners();
        for (int i = 0; i < 12; i++) {
            x.request(i % 8, 100 - 5 * i, 5, 1 + i % 9, 0);
        }
        for (int i = 0; i < 12; i++) {
            Check.plan("of twelve, number " + i, x, i, 100 - 5 * i, 105 - 5 * i);
        }
    }

    // Promise 5: of a WAITING one, NONE if it is not planned; of one that ran its FROM; otherwise NONE.
    private static void plannedFromByState() {
        TwinTuners x = everyState();
        int[] due = {-1, 60, 4, 1, -1, -1, 2};
        for (int n = 0; n < due.length; n++) {
            Check.due("5: in state " + x.state(n), x.planFrom(n), due[n]);
        }
    }

    // Promise 6: of a WAITING or RUNNING one by the plan; of one that ran its END; otherwise NONE.
    private static void plannedToByState() {
        TwinTuners x = everyState();
        int[] due = {-1, 65, 22, 4, -1, -1, 3};
        for (int n = 0; n < due.length; n++) {
            Check.due("6: in state " + x.state(n), x.planTo(n), due[n]);
        }
    }

    /** In this order: WAITING and not planned, WAITING, RUNNING, FINISHED, MISSED, CANCELLED, ERASED. */
    private static TwinTuners everyState() {
        TwinTuners x = new TwinTuners();
        x.request(0, 12, 5, 1, 0);
        x.request(1, 60, 5, 5, 0);
        x.request(2, 5, 15, 5, 12);
        x.request(3, 1, 3, 5, 0);
        x.request(4, 2, 3, 4, 0);
        x.request(5, 3, 5, 3, 0);
        x.request(6, 2, 1, 5, 0);
        x.request(7, 10, 5, 5, 0);
        x.cancel(5);
        x.ticks(6);
        x.erase(6);
        int[] due = {0, 0, 1, 2, 3, 4, 5};
        for (int n = 0; n < due.length; n++) {
            Check.due("4: of every state", x.state(n), due[n]);
        }
        return x;
    }

    private static void noSuchRequest() {
        TwinTuners x = new TwinTuners();
        Check.noSuchRequest("5: planFrom, none made,", x, x::planFrom);
        Check.noSuchRequest("6: planTo, none made,", x, x::planTo);
        x.request(0, 5, 5, 5, 0);
        x.request(0, 5, 5, 5, 0);
        Check.noSuchRequest("5: planFrom", x, x::planFrom);
        Check.noSuchRequest("6: planTo", x, x::planTo);
    }
}
