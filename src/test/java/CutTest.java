/** Promise 22: cut. */
public final class CutTest {
    public static void main(String[] args) {
        lostSegment();
        wholeSegmentsAreKept();
        cutToNow();
        goesOn();
        recordsIntoTheLostSegmentAnew();
        endsByCoreEnd();
        endsInPadding();
        runningBeforeItsCore();
        waiting();
        shortSecondsAreNotLost();
        finishedIsKept();
        wrongInputs();
        Check.end();
    }

    private static void lostSegment() {
        TwinTuners x = new TwinTuners();
        x.request(0, 0, 40, 5, 0);
        x.request(1, 1, 40, 5, 0);
        x.ticks(7);
        Check.due("19: before", x.free(), 20);
        Check.due("22: three and two are lost", x.cut(9), 5);
        Check.due("22: NOW", x.now(), 9);
        Check.due("19: after", x.free(), 22);
        Check.due("14: the first", x.recorded(0), 4);
        Check.due("14: the second", x.recorded(1), 4);
        Check.due("13: kept", x.word(0, 3), 0);
        Check.due("13: lost", x.word(0, 4), -1);
        Check.due("15: lost is not SHORT", x.shortBy(0), 0);
        Check.due("22: nothing left to lose", x.cut(9), 0);
    }

    private static void wholeSegmentsAreKept() {
        TwinTuners x = new TwinTuners();
        x.request(0, 0, 40, 5, 0);
        x.ticks(8);
        Check.due("22: none has begun", x.cut(20), 0);
        Check.due("14: all kept", x.recorded(0), 8);
        Check.due("19: all kept", x.free(), 22);
        x.tick();
        Check.due("22: one second of one", x.cut(21), 1);
    }

    private static void cutToNow() {
        TwinTuners x = new TwinTuners();
        x.request(0, 0, 6, 5, 0);
        x.request(1, 5, 6, 5, 20);
        x.ticks(5);
        Check.due("22: lost", x.cut(5), 1 + 2);
        Check.due("22: NOW", x.now(), 5);
        Check.due("22: RUNNING still", x.state(0), TwinTuners.RUNNING);
        Check.due("22: RUNNING still", x.state(1), TwinTuners.RUNNING);
        Check.due("22: END by the plan", x.planTo(0), 6);
        x.tick();
        Check.due("22: FINISHED", x.state(0), TwinTuners.FINISHED);
        Check.due("13: as its second 5", x.word(0, 5), 0);
        Check.due("13: second 4 is lost", x.word(0, 4), -1);
        Check.due("14: in all", x.recorded(0), 5);
    }

    private static void goesOn() {
        TwinTuners x = new TwinTuners();
        x.request(0, 0, 20, 5, 3);
        x.air(0, 1);
        x.ticks(6);
        x.air(0, 2);
        Check.due("22: lost", x.cut(13), 2);
        Check.due("22: RUNNING still", x.state(0), TwinTuners.RUNNING);
        Check.due("5: FROM stays", x.planFrom(0), 0);
        Check.due("6: END with its AFTER", x.planTo(0), 23);
        Check.due("9: goes on", x.ticks(20), 10);
        long[] due = {1, 1, 1, 1, -1, -1, -1, -1, -1, -1, -1, -1, -1, 2, 2, 2, 2, 2, 2, 2, 2, 2, 2, -1};
        for (int k = 0; k < due.length; k++) {
            Check.due("13: second " + k, x.word(0, k), due[k]);
        }
        Check.due("14: in all", x.recorded(0), 14);
        Check.due("15: not SHORT", x.shortBy(0), 0);
        Check.due("19: segments 0, 3, 4 and 5", x.free(), 20);
    }

    private static void recordsIntoTheLostSegmentAnew() {
        TwinTuners x = new TwinTuners();
        x.request(0, 0, 8, 5, 0);
        x.air(0, 1);
        x.ticks(2);
        Check.due("22: lost", x.cut(3), 2);
        x.air(0, 2);
        x.tick();
        Check.due("13: lost", x.word(0, 0), -1);
        Check.due("13: lost", x.word(0, 1), -1);
        Check.due("13: never came", x.word(0, 2), -1);
        Check.due("13: anew", x.word(0, 3), 2);
        Check.due("14: anew", x.recorded(0), 1);
        Check.due("22: the segment's last second has come", x.cut(4), 0);
        Check.due("14: kept", x.recorded(0), 1);
    }

    private static void endsByCoreEnd() {
        for (int t = 6; t <= 12; t++) {
            TwinTuners x = new TwinTuners();
            x.request(0, 0, 10, 5, 5);
            x.ticks(6);
            x.cut(t);
            boolean ended = t >= 10;
            Check.due("22: state, back at " + t, x.state(0), ended ? TwinTuners.FINISHED : TwinTuners.RUNNING);
            Check.due("22: END, back at " + t, x.planTo(0), ended ? 10 : 15);
            Check.due("22: FROM, back at " + t, x.planFrom(0), 0);
            Check.due("22: tuned, back at " + t, x.tick(), ended ? 0 : 1);
        }
    }

    private static void endsInPadding() {
        for (int ran = 4; ran <= 7; ran++) {
            TwinTuners x = new TwinTuners();
            x.request(0, 0, 4, 5, 5);
            x.ticks(ran);
            Check.due("22: RUNNING in its AFTER", x.state(0), TwinTuners.RUNNING);
            Check.due("22: lost at " + ran, x.cut(ran), ran % 4);
            Check.due("22: FINISHED at " + ran, x.state(0), TwinTuners.FINISHED);
            Check.due("22: END is the NOW of before", x.planTo(0), ran);
            TwinTuners y = new TwinTuners();
            y.request(0, 0, 4, 5, 5);
            y.ticks(ran);
            y.cut(ran + 100);
            Check.due("22: END is the NOW of before the cut", y.planTo(0), ran);
        }
    }

    private static void runningBeforeItsCore() {
        TwinTuners x = new TwinTuners();
        x.request(0, 9, 4, 5, 90);
        x.ticks(2);
        Check.due("22: lost in its BEFORE", x.cut(10), 2);
        Check.due("22: RUNNING still", x.state(0), TwinTuners.RUNNING);
        Check.due("9: three left", x.ticks(9), 3);
        Check.due("5: FROM", x.planFrom(0), 0);
        Check.due("13: second 10", x.word(0, 10), 0);
        Check.due("13: second 9", x.word(0, 9), -1);
    }

    private static void waiting() {
        TwinTuners x = new TwinTuners();
        x.request(0, 9, 40, 5, 0);
        x.request(1, 10, 40, 5, 30);
        x.request(2, 11, 4, 5, 0);
        Check.due("22: nothing recorded", x.cut(10), 0);
        Check.due("22: starts before t", x.state(0), TwinTuners.MISSED);
        Check.due("22: starts at t", x.state(1), TwinTuners.WAITING);
        Check.due("22: starts behind t", x.state(2), TwinTuners.WAITING);
        Check.due("5: MISSED", x.planFrom(0), -1);
        Check.due("6: MISSED", x.planTo(0), -1);
        Check.due("8: starts", x.tick(), 2);
        Check.due("8: starts", x.tick(), 6);
    }

    private static void shortSecondsAreNotLost() {
        TwinTuners x = new TwinTuners();
        x.request(0, 0, 48, 5, 0);
        x.request(1, 0, 48, 5, 0);
        x.ticks(48);
        x.protect(0, true);
        x.protect(1, true);
        x.request(2, 48, 10, 5, 0);
        x.ticks(2);
        Check.due("22: no segment, nothing lost", x.cut(50), 0);
        x.erase(1);
        x.tick();
        Check.due("22: just the second recorded", x.cut(51), 1);
        Check.due("15: SHORT stays", x.shortBy(2), 2);
        Check.due("19: free again", x.free(), 12);
    }

    private static void finishedIsKept() {
        TwinTuners x = new TwinTuners();
        x.request(0, 0, 6, 5, 0);
        x.request(1, 0, 6, 5, 0);
        x.ticks(5);
        x.cancel(1);
        x.tick();
        Check.due("22: none is RUNNING", x.cut(50), 0);
        Check.due("14: FINISHED is kept", x.recorded(0), 6);
        Check.due("14: one cancelled is kept", x.recorded(1), 5);
        Check.due("6: END stays", x.planTo(0), 6);
        Check.due("6: END stays", x.planTo(1), 5);
    }

    private static void wrongInputs() {
        TwinTuners x = new TwinTuners();
        x.request(0, 5, 50, 5, 0);
        x.request(1, 100, 50, 5, 0);
        x.watch(4);
        x.ticks(7);
        for (int t : new int[] {6, -1, 1008, Integer.MIN_VALUE, Integer.MAX_VALUE}) {
            Check.badArgument("22: cut " + t, x, () -> x.cut(t));
        }
        Check.due("22: a thousand behind NOW", x.cut(1007), 2);
        Check.due("10: NOW", x.now(), 1007);
        Check.due("22: END", x.planTo(0), 55);
        Check.due("22: MISSED", x.state(1), TwinTuners.MISSED);
    }
}
