/** A TICK, what can be wound BACK to, and promises 7 to 12: a test for each sentence that names an edge. */
public final class TickEdgeTest {
    private static final int LEAST = Integer.MIN_VALUE;
    private static final int MOST = Integer.MAX_VALUE;

    public static void main(String[] args) {
        wordsAreZeroAtFirst();
        airFromNowOn();
        airNoSuchChannel();
        plannedFromNowOn();
        startsNowAndNotPlanned();
        endIsNow();
        endsByThePlan();
        sumOfTuned();
        servedIfLessThanTwo();
        servedIfTuned();
        oneToHundredTicks();
        ticksCountWhatIsRecorded();
        nowIsOneMore();
        watchNoSuchChannel();
        watchAnswersWhatWasWatched();
        backFromOneOn();
        backAtMostThirty();
        backGoesRound();
        backSinceWatch();
        backSinceNotServed();
        backSinceCut();
        backIsUnsigned();
        Check.end();
    }

    private static TwinTuners watching(int channel) {
        TwinTuners x = new TwinTuners();
        x.watch(channel);
        return x;
    }

    /** How many seconds can be wound BACK to. */
    private static void windsBack(String what, TwinTuners x, int seconds) {
        for (int k = 1; k <= 32; k++) {
            Check.due("12: " + what + ", whether to " + k, x.back(k) == TwinTuners.NONE ? 0 : 1, k <= seconds ? 1 : 0);
        }
    }

    // Terms: each has a WORD on the air, 0 at first.
    private static void wordsAreZeroAtFirst() {
        for (int c = 0; c < 8; c++) {
            TwinTuners x = watching(c);
            x.request(c, 0, 1, 5, 0);
            x.tick();
            Check.due("12: first word of channel " + c, x.back(1), 0);
            Check.due("13: first word of channel " + c, x.word(0, 0), 0);
        }
    }

    // Promise 7: a channel's word from now on.
    private static void airFromNowOn() {
        TwinTuners x = watching(5);
        x.request(5, 0, 4, 5, 0);
        x.tick();
        x.air(5, 1);
        Check.due("7: not for the second before", x.back(1), 0);
        x.tick();
        x.air(4, 9);
        x.tick();
        x.air(5, 2);
        x.air(5, 0);
        x.tick();
        long[] due = {0, 1, 1, 0};
        for (int k = 0; k < 4; k++) {
            Check.due("7: recorded as second " + k, x.word(0, k), due[k]);
            Check.due("7: watched in second " + k, x.back(4 - k), due[k]);
        }
    }

    // Promise 7: there is no such channel.
    private static void airNoSuchChannel() {
        TwinTuners x = new TwinTuners();
        for (int c : new int[] {-1, 8, LEAST, MOST}) {
            Check.outOfBounds("7: air " + c, x, () -> x.air(c, 77));
        }
        for (int c = 0; c < 8; c++) {
            x.watch(c);
            x.tick();
            Check.due("7: no word of channel " + c + " has changed", x.back(1), 0);
            x.air(c, 10 + c);
            x.tick();
            Check.due("7: channel " + c, x.back(1), 10 + c);
        }
    }

    // A TICK: WAITING ones that are planned from NOW on are RUNNING.
    private static void plannedFromNowOn() {
        TwinTuners x = new TwinTuners();
        x.request(0, 0, 2, 5, 0);
        x.request(1, 1, 2, 5, 0);
        Check.due("8: planned from NOW, and from one later", x.tick(), 1);
        Check.due("4: planned from NOW", x.state(0), TwinTuners.RUNNING);
        Check.due("4: planned from one later", x.state(1), TwinTuners.WAITING);
        Check.due("8: both", x.tick(), 3);
        TwinTuners y = new TwinTuners();
        y.request(0, 2, 2, 5, 20);
        y.request(1, 2, 2, 5, 10);
        Check.due("8: BEFORE from NOW, and from one later", y.tick(), 1);
        Check.due("8: both", y.tick(), 3);
    }

    // A TICK: WAITING ones whose core starts NOW and that are not planned are MISSED.
    private static void startsNowAndNotPlanned() {
        TwinTuners x = new TwinTuners();
        x.request(0, 0, 20, 9, 0);
        x.request(1, 0, 20, 9, 0);
        x.request(2, 0, 5, 5, 0);
        x.request(3, 1, 5, 5, 0);
        x.tick();
        Check.due("4: started NOW", x.state(2), TwinTuners.MISSED);
        Check.due("4: starts one later", x.state(3), TwinTuners.WAITING);
        x.cancel(1);
        x.tick();
        Check.due("4: a tuner in time", x.state(3), TwinTuners.RUNNING);
        Check.due("4: too late for it", x.state(2), TwinTuners.MISSED);
    }

    // Then NOW is one more; RUNNING ones whose END is NOW are FINISHED.
    private static void endIsNow() {
        TwinTuners x = new TwinTuners();
        x.request(0, 0, 1, 5, 0);
        x.request(1, 0, 2, 5, 0);
        x.tick();
        Check.due("4: END 1 at 1", x.state(0), TwinTuners.FINISHED);
        Check.due("4: END 2 at 1", x.state(1), TwinTuners.RUNNING);
        Check.due("8: only the other one", x.tick(), 2);
        Check.due("4: END 2 at 2", x.state(1), TwinTuners.FINISHED);
        Check.due("8: none", x.tick(), 0);
        Check.due("14: one second", x.recorded(0), 1);
        Check.due("14: two seconds", x.recorded(1), 2);
    }

    // A TICK: RUNNING ones get their ENDs by it; in their core's last second for the last time.
    private static void endsByThePlan() {
        TwinTuners x = new TwinTuners();
        x.request(0, 0, 4, 5, 3);
        x.request(1, 0, 20, 5, 0);
        x.ticks(3);
        int late = x.request(2, 5, 2, 5, 0);
        Check.plan("in its core's last second", x, 0, 0, 4);
        x.tick();
        Check.due("4: FINISHED at its core's end", x.state(0), TwinTuners.FINISHED);
        x.cancel(late);
        Check.plan("its END stays", x, 0, 0, 4);
        TwinTuners y = new TwinTuners();
        y.request(0, 0, 4, 5, 3);
        y.request(1, 0, 20, 5, 0);
        y.ticks(4);
        y.request(2, 5, 2, 9, 0);
        y.ticks(2);
        Check.due("4: one second before its END", y.state(0), TwinTuners.RUNNING);
        y.tick();
        Check.due("4: at its END", y.state(0), TwinTuners.FINISHED);
        Check.due("4: it took the tuner", y.state(2), TwinTuners.MISSED);
    }

    // Promise 8: the sum of 2^c for all channels c tuned in it.
    private static void sumOfTuned() {
        for (int c = 0; c < 8; c++) {
            for (int d = 0; d < 8; d++) {
                TwinTuners x = new TwinTuners();
                x.request(c, 0, 1, 5, 0);
                x.request(d, 0, 1, 5, 0);
                x.request(c, 0, 1, 5, 0);
                Check.due("8: channels " + c + " and " + d, x.tick(), 1 << c | 1 << d);
                Check.due("8: none", x.tick(), 0);
            }
        }
    }

    // TUNED: the WATCHED channel is SERVED if less than two are (then it is tuned, too).
    private static void servedIfLessThanTwo() {
        TwinTuners x = watching(7);
        Check.due("8: none beside it", x.tick(), 128);
        x.request(0, 1, 3, 5, 0);
        Check.due("8: one beside it", x.tick(), 129);
        windsBack("one beside it", x, 2);
        x.request(0, 2, 1, 5, 0);
        Check.due("8: one channel twice beside it", x.tick(), 129);
        x.request(1, 3, 1, 5, 0);
        Check.due("8: two beside it", x.tick(), 3);
        windsBack("two beside it", x, 0);
        Check.due("8: none again", x.tick(), 128);
        windsBack("none again", x, 1);
    }

    // TUNED: the WATCHED channel is SERVED if it is tuned.
    private static void servedIfTuned() {
        for (int watched = 0; watched < 8; watched++) {
            TwinTuners x = watching(watched);
            x.request(2, 0, 2, 5, 0);
            x.request(6, 0, 2, 5, 0);
            boolean tuned = watched == 2 || watched == 6;
            Check.due("8: two are tuned", x.ticks(2), 4);
            windsBack("two are tuned, watched is " + watched, x, tuned ? 2 : 0);
        }
    }

    // Promise 9: many is not 1 .. 100.
    private static void oneToHundredTicks() {
        TwinTuners x = new TwinTuners();
        x.request(0, 0, 60, 5, 0);
        for (int many : new int[] {0, 101, -1, LEAST, MOST}) {
            Check.badArgument("9: ticks " + many, x, () -> x.ticks(many));
        }
        Check.due("9: one", x.ticks(1), 1);
        Check.due("10: behind one", x.now(), 1);
        Check.due("9: a hundred", x.ticks(100), 59);
        Check.due("10: behind a hundred", x.now(), 101);
    }

    // Promise 9: how many seconds were recorded in them, of all recordings.
    private static void ticksCountWhatIsRecorded() {
        TwinTuners x = watching(4);
        Check.due("9: watched is not recorded", x.ticks(4), 0);
        x.request(4, 4, 2, 5, 0);
        x.request(4, 5, 2, 5, 0);
        Check.due("9: one and two", x.ticks(2), 3);
        Check.due("9: one more", x.ticks(2), 1);
        TwinTuners y = new TwinTuners();
        y.request(0, 0, 60, 5, 0);
        y.request(1, 0, 40, 5, 0);
        y.ticks(40);
        y.protect(1, true);
        y.ticks(16);
        Check.due("9: the last of the disk", y.free(), 0);
        Check.due("9: not those that are SHORT", y.ticks(2), 0);
        Check.due("15: SHORT", y.shortBy(0), 2);
    }

    // Promise 10; Then NOW is one more.
    private static void nowIsOneMore() {
        TwinTuners x = new TwinTuners();
        for (int s = 0; s < 5; s++) {
            Check.due("10: at " + s, x.now(), s);
            x.tick();
        }
        x.cut(5);
        Check.due("10: a cut to NOW", x.now(), 5);
        x.cut(6);
        Check.due("10: a cut to one later", x.now(), 6);
    }

    // Promise 11: watches a channel, or none (NONE); there is no such channel.
    private static void watchNoSuchChannel() {
        TwinTuners x = watching(3);
        x.ticks(2);
        for (int c : new int[] {-2, 8, LEAST, MOST}) {
            Check.outOfBounds("11: watch " + c, x, () -> x.watch(c));
        }
        windsBack("refused watches", x, 2);
        Check.due("8: still watched", x.tick(), 8);
        Check.due("11: NONE, 3 was", x.watch(TwinTuners.NONE), 3);
        Check.due("8: none is watched", x.tick(), 0);
        for (int c : new int[] {-2, 8, LEAST, MOST}) {
            Check.outOfBounds("11: watch " + c, x, () -> x.watch(c));
        }
        Check.due("8: none is watched still", x.tick(), 0);
        Check.due("11: 0, none was", x.watch(0), TwinTuners.NONE);
        Check.due("8: 0 is watched", x.tick(), 1);
        Check.due("11: 7, 0 was", x.watch(7), 0);
        Check.due("8: 7 is watched", x.tick(), 128);
    }

    // Promise 11: what was watched.
    private static void watchAnswersWhatWasWatched() {
        TwinTuners x = new TwinTuners();
        int was = TwinTuners.NONE;
        for (int c : new int[] {0, 0, 7, -1, -1, 1, 2, 3, 4, 5, 6, 7}) {
            Check.due("11: before " + c, x.watch(c), was);
            was = c;
        }
    }

    // Promise 12: (1: in the latest second); NONE if one can't wind so far BACK.
    private static void backFromOneOn() {
        TwinTuners x = watching(3);
        Check.due("12: no second yet", x.back(1), -1);
        x.air(3, 5);
        x.tick();
        Check.due("12: one second", x.back(1), 5);
        x.air(3, 6);
        x.tick();
        Check.due("12: the latest", x.back(1), 6);
        Check.due("12: the one before", x.back(2), 5);
        for (int k : new int[] {0, -1, 3, LEAST, LEAST + 1, MOST, MOST - 29}) {
            Check.due("12: back " + k, x.back(k), -1);
        }
    }

    // Terms: the words of the latest seconds, at most 30.
    private static void backAtMostThirty() {
        TwinTuners x = watching(3);
        x.air(3, 7);
        x.ticks(29);
        windsBack("29 seconds", x, 29);
        x.tick();
        windsBack("30 seconds", x, 30);
        x.air(3, 8);
        x.tick();
        windsBack("31 seconds", x, 30);
        Check.due("12: the latest of 31", x.back(1), 8);
        Check.due("12: the earliest of 31", x.back(30), 7);
        x.ticks(28);
        Check.due("12: still there", x.back(30), 7);
        x.tick();
        Check.due("12: gone", x.back(30), 8);
    }

    private static void backGoesRound() {
        TwinTuners x = watching(3);
        for (int s = 0; s < 95; s++) {
            x.air(3, s);
            x.tick();
            if (s % 30 <= 1 || s % 30 == 29) {
                for (int k = 1; k <= 31; k++) {
                    Check.due("12: " + k + " before " + x.now(), x.back(k), k <= 30 && k <= s + 1 ? s + 1 - k : -1);
                }
            }
        }
    }

    // Terms: those since watch was called last.
    private static void backSinceWatch() {
        TwinTuners x = watching(3);
        x.ticks(40);
        windsBack("watched for long", x, 30);
        x.watch(4);
        windsBack("another one", x, 0);
        x.tick();
        windsBack("another one for a second", x, 1);
        x.watch(4);
        windsBack("the same one anew", x, 0);
        x.tick();
        windsBack("the same one anew for a second", x, 1);
        x.watch(TwinTuners.NONE);
        windsBack("none", x, 0);
        x.tick();
        windsBack("none for a second", x, 0);
        x.watch(4);
        windsBack("watched again", x, 0);
    }

    // Terms: or it was not served last.
    private static void backSinceNotServed() {
        TwinTuners x = watching(3);
        x.request(0, 33, 1, 5, 0);
        x.request(1, 33, 1, 5, 0);
        x.ticks(33);
        windsBack("before", x, 30);
        x.tick();
        windsBack("not served", x, 0);
        x.tick();
        windsBack("served again", x, 1);
        x.tick();
        windsBack("served again, one more", x, 2);
        Check.due("11: watched all the time", x.watch(0), 3);
    }

    // Terms: or the power was cut last.
    private static void backSinceCut() {
        for (int t : new int[] {33, 34, 1033}) {
            TwinTuners x = watching(3);
            x.ticks(33);
            x.cut(t);
            windsBack("cut", x, 0);
            x.tick();
            windsBack("a second behind the cut", x, 1);
            Check.due("11: watched all the time", x.watch(0), 3);
        }
    }

    // Promise 12: 0 .. 2^32 - 1.
    private static void backIsUnsigned() {
        TwinTuners x = watching(3);
        int[] words = {0, 1, MOST, LEAST, -1};
        long[] due = {0, 1, 2147483647L, 2147483648L, 4294967295L};
        for (int i = 0; i < words.length; i++) {
            x.air(3, words[i]);
            x.tick();
            Check.due("12: word " + words[i], x.back(1), due[i]);
        }
        for (int i = 0; i < words.length; i++) {
            Check.due("12: word " + words[i] + " later", x.back(words.length - i), due[i]);
        }
    }
}
