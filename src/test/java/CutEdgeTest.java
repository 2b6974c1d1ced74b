/** Promise 22: a test for each sentence, and part of one, that names an edge. */
public final class CutEdgeTest {
    private static final int LEAST = Integer.MIN_VALUE;
    private static final int MOST = Integer.MAX_VALUE;

    public static void main(String[] args) {
        backBeforeNowOrTooFar();
        lastSecondHasNotComeYet();
        segmentsFromItsFrom();
        ifItHasBegun();
        ofEachRunning();
        onlyOfRunning();
        lostAndFree();
        lostSecondsOnceOnly();
        lostDoesNotCountShort();
        recordsOnInTheSameSegment();
        coreEndNotBehindT();
        coreEndBeforeNow();
        coreEndAtNow();
        goesOnByThePlan();
        waitingThatStartBeforeT();
        beforeDoesNotSaveIt();
        marksAndWordsStay();
        Check.end();
    }

    // IllegalArgument: t is before NOW or more than 1000 behind it.
    private static void backBeforeNowOrTooFar() {
        for (int now : new int[] {0, 1, 9}) {
            for (int t : new int[] {now, now + 1, now + 999, now + 1000}) {
                TwinTuners x = busyAt(now);
                for (int bad : new int[] {now - 1, now + 1001, LEAST, MOST, -1}) {
                    Check.badArgument("22: cut " + bad + " at " + now, x, () -> x.cut(bad));
                }
                Check.taken("22: cut " + t + " at " + now, () -> x.cut(t));
                Check.due("22: NOW", x.now(), t);
                Check.badArgument("22: cut " + (t - 1) + " at " + t, x, () -> x.cut(t - 1));
                Check.badArgument("22: cut " + (t + 1001) + " at " + t, x, () -> x.cut(t + 1001));
            }
        }
    }

    private static TwinTuners busyAt(int now) {
        TwinTuners x = new TwinTuners();
        x.watch(5);
        x.request(0, 0, 50, 5, 0);
        x.request(1, 3, 50, 5, 22);
        x.request(2, 60, 50, 5, 0);
        if (now > 0) {
            x.ticks(now);
        }
        return x;
    }

    // Of each RUNNING one the segment whose last second has not come yet is lost.
    private static void lastSecondHasNotComeYet() {
        for (int ran = 1; ran <= 12; ran++) {
            TwinTuners x = new TwinTuners();
            x.request(0, 0, 60, 5, 0);
            x.ticks(ran);
            Check.due("22: lost after " + ran, x.cut(ran), ran % 4);
            Check.due("14: kept after " + ran, x.recorded(0), ran - ran % 4);
            Check.due("19: free after " + ran, x.free(), 24 - ran / 4);
            for (int k = 0; k < 13; k++) {
                Check.due("13: after " + ran + ", second " + k, x.word(0, k), k < ran - ran % 4 ? 0 : -1);
            }
        }
    }

    private static void segmentsFromItsFrom() {
        for (int ran = 1; ran <= 8; ran++) {
            TwinTuners x = new TwinTuners();
            x.request(0, 5, 40, 5, 20);
            x.ticks(3 + ran);
            Check.due("22: lost " + ran + " from its FROM", x.cut(3 + ran), ran % 4);
            Check.due("14: kept " + ran + " from its FROM", x.recorded(0), ran - ran % 4);
        }
    }

    // If it has begun.
    private static void ifItHasBegun() {
        TwinTuners x = new TwinTuners();
        x.request(0, 0, 60, 5, 0);
        x.ticks(4);
        Check.due("22: the next has not begun", x.cut(4), 0);
        Check.due("19: one is kept", x.free(), 23);
        Check.due("22: still not", x.cut(4), 0);
        x.tick();
        Check.due("22: begun", x.cut(5), 1);
        Check.due("19: one is kept", x.free(), 23);
        Check.due("22: in it, but nothing is recorded there", x.cut(6), 0);
        TwinTuners y = new TwinTuners();
        y.request(0, 0, 60, 5, 0);
        Check.due("22: nothing RUNNING", y.cut(0), 0);
        Check.due("4: it starts at t", y.state(0), TwinTuners.WAITING);
    }

    private static void ofEachRunning() {
        TwinTuners x = new TwinTuners();
        for (int i = 0; i < 4; i++) {
            x.request(i % 2, i, 30, 5, 0);
        }
        x.ticks(7);
        Check.due("22: 3 and 2 and 1 and 0", x.cut(7), 6);
        for (int i = 0; i < 4; i++) {
            Check.due("14: number " + i, x.recorded(i), 4);
        }
        Check.due("19: four are kept", x.free(), 20);
    }

    private static void onlyOfRunning() {
        TwinTuners x = new TwinTuners();
        x.request(0, 0, 2, 5, 0);
        x.request(1, 0, 3, 5, 0);
        x.ticks(2);
        Check.due("22: FINISHED keeps two, RUNNING loses two", x.cut(2), 2);
        Check.due("14: FINISHED", x.recorded(0), 2);
        Check.due("14: RUNNING", x.recorded(1), 0);
        TwinTuners y = new TwinTuners();
        y.request(0, 0, 9, 5, 0);
        y.ticks(2);
        y.cancel(0);
        Check.due("22: FINISHED by cancel", y.cut(2), 0);
        Check.due("14: FINISHED by cancel", y.recorded(0), 2);
    }

    // Is lost, and free.
    private static void lostAndFree() {
        TwinTuners x = new TwinTuners();
        x.request(0, 0, 48, 5, 0);
        x.request(1, 0, 48, 5, 0);
        x.ticks(45);
        Check.due("19: none free", x.free(), 0);
        Check.due("22: one each", x.cut(45), 2);
        Check.due("19: two free", x.free(), 2);
        x.cancel(0);
        x.request(2, 45, 4, 5, 0);
        x.ticks(3);
        Check.due("19: both taken again", x.free(), 0);
        Check.due("4: no room had to be made", x.state(0), TwinTuners.FINISHED);
        Check.due("14: in one of them", x.recorded(2), 3);
        Check.due("13: nothing of the other's", x.word(2, 3), -1);
        Check.due("14: in the other one", x.recorded(1), 44 + 3);
    }

    // How many seconds recorded were lost.
    private static void lostSecondsOnceOnly() {
        TwinTuners x = new TwinTuners();
        x.request(0, 0, 60, 5, 0);
        x.ticks(3);
        Check.due("22: three", x.cut(3), 3);
        Check.due("22: none any more", x.cut(3), 0);
        x.tick();
        Check.due("22: its last second has come", x.cut(4), 0);
        Check.due("14: that one is kept", x.recorded(0), 1);
        x.ticks(2);
        Check.due("22: two", x.cut(6), 2);
        x.tick();
        Check.due("22: just the one since", x.cut(7), 1);
        Check.due("14: the one of before", x.recorded(0), 1);
    }

    private static void lostDoesNotCountShort() {
        TwinTuners x = new TwinTuners();
        x.request(0, 0, 48, 5, 0);
        x.request(1, 0, 48, 5, 0);
        x.ticks(48);
        x.protect(0, true);
        x.protect(1, true);
        x.request(2, 48, 20, 5, 0);
        x.ticks(2);
        x.protect(0, false);
        x.tick();
        Check.due("15: two", x.shortBy(2), 2);
        Check.due("22: only what was recorded", x.cut(51), 1);
        Check.due("15: two still", x.shortBy(2), 2);
        Check.due("14: nothing", x.recorded(2), 0);
        x.cut(60);
        Check.due("15: two still", x.shortBy(2), 2);
    }

    private static void recordsOnInTheSameSegment() {
        for (int t = 2; t <= 5; t++) {
            TwinTuners x = new TwinTuners();
            x.air(0, 1);
            x.request(0, 0, 8, 5, 0);
            x.ticks(2);
            x.cut(t);
            x.air(0, 2);
            x.ticks(9);
            Check.due("14: back at " + t, x.recorded(0), 8 - t);
            Check.due("19: back at " + t, x.free(), t < 4 ? 22 : 23);
            for (int k = 0; k < 9; k++) {
                Check.due("13: back at " + t + ", second " + k, x.word(0, k), k >= t && k < 8 ? 2 : -1);
            }
        }
    }

    // RUNNING ones whose core's end is not behind t are FINISHED, with that as their END.
    private static void coreEndNotBehindT() {
        for (int after = 0; after <= 5; after += 5) {
            for (int t : new int[] {5, 8, 9, 10, 11, 14, 15, 16, 1005}) {
                TwinTuners x = new TwinTuners();
                x.request(0, 2, 8, 5, 10 + after);
                x.ticks(5);
                x.cut(t);
                boolean ended = t >= 10;
                Check.due("4: back at " + t, x.state(0), ended ? TwinTuners.FINISHED : TwinTuners.RUNNING);
                Check.plan("back at " + t, x, 0, 1, ended ? 10 : 10 + after);
                Check.due("9: back at " + t, x.ticks(20), ended ? 0 : 10 + after - t);
            }
        }
    }

    // Or, if it was before NOW, with the NOW of before.
    private static void coreEndBeforeNow() {
        for (int now = 5; now <= 8; now++) {
            for (int t : new int[] {now, now + 1, now + 1000}) {
                TwinTuners x = new TwinTuners();
                x.request(0, 0, 4, 5, 5);
                x.ticks(now);
                Check.due("4: in its AFTER", x.state(0), TwinTuners.RUNNING);
                Check.due("22: lost", x.cut(t), now % 4);
                Check.due("4: back at " + t, x.state(0), TwinTuners.FINISHED);
                Check.plan("cut at " + now, x, 0, 0, now);
            }
        }
    }

    private static void coreEndAtNow() {
        for (int t : new int[] {4, 5, 1004}) {
            TwinTuners x = new TwinTuners();
            x.request(0, 0, 4, 5, 5);
            x.ticks(4);
            Check.due("4: at its core's end", x.state(0), TwinTuners.RUNNING);
            Check.due("22: nothing lost", x.cut(t), 0);
            Check.due("4: back at " + t, x.state(0), TwinTuners.FINISHED);
            Check.plan("END is its core's end and NOW", x, 0, 0, 4);
        }
    }

    private static void goesOnByThePlan() {
        TwinTuners x = new TwinTuners();
        x.request(0, 0, 20, 1, 5);
        x.request(1, 0, 30, 1, 0);
        x.ticks(2);
        Check.due("22: lost", x.cut(19), 4);
        Check.plan("RUNNING with its AFTER", x, 0, 0, 25);
        x.request(2, 24, 3, 1, 0);
        Check.plan("its AFTER does not fit", x, 0, 0, 20);
        Check.due("8: both go on", x.tick(), 3);
        Check.due("4: FINISHED", x.state(0), TwinTuners.FINISHED);
        Check.due("13: the last second", x.word(0, 19), 0);
        Check.due("14: just that", x.recorded(0), 1);
    }

    // WAITING ones that start before t are MISSED.
    private static void waitingThatStartBeforeT() {
        for (int t : new int[] {0, 9, 10, 11, 1000}) {
            TwinTuners x = new TwinTuners();
            x.request(0, 10, 50, 5, 0);
            Check.due("22: nothing lost", x.cut(t), 0);
            boolean missed = t > 10;
            Check.due("4: back at " + t, x.state(0), missed ? TwinTuners.MISSED : TwinTuners.WAITING);
            Check.plan("back at " + t, x, 0, missed ? -1 : 10, missed ? -1 : 60);
        }
    }

    private static void beforeDoesNotSaveIt() {
        for (int t = 6; t <= 11; t++) {
            TwinTuners x = new TwinTuners();
            x.request(0, 10, 5, 5, 33);
            x.cut(t);
            Check.plan("BEFORE, back at " + t, x, 0, t <= 7 ? 7 : t <= 10 ? 10 : -1, t <= 10 ? 18 : -1);
        }
    }

    private static void marksAndWordsStay() {
        TwinTuners x = new TwinTuners();
        x.air(0, 8);
        x.watch(0);
        x.request(0, 0, 48, 1, 0);
        x.request(1, 0, 48, 5, 0);
        x.ticks(44);
        x.protect(0, true);
        x.bookmark(0, 7);
        x.cut(44);
        x.ticks(4);
        Check.due("12: the word on the air", x.back(1), 8);
        Check.due("21: the bookmark", x.bookmarkAt(0, 0), 7);
        x.request(2, 48, 1, 5, 0);
        x.tick();
        Check.due("16: PROTECTED", x.state(0), TwinTuners.FINISHED);
        Check.due("16: not PROTECTED", x.state(1), TwinTuners.ERASED);
        Check.due("11: what was watched", x.watch(1), 0);
    }
}
