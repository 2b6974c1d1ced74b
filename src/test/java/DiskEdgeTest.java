/** The disk, how room is made, ERASED, and promises 13 to 15 and 18, 19: a test for each sentence that names an edge. */
public final class DiskEdgeTest {
    private static final int LEAST = Integer.MIN_VALUE;
    private static final int MOST = Integer.MAX_VALUE;

    public static void main(String[] args) {
        firstSecondIsZero();
        segmentsOfFour();
        segmentsFromItsFrom();
        twentyFourSegments();
        noRoomWithinASegment();
        oneFreeIsEnough();
        byNumber();
        notRunning();
        notWithoutSegments();
        oneErasedAtATime();
        shortByOneMore();
        segmentTakenLater();
        wordBeforeAndBehind();
        wordIsUnsigned();
        recordedByState();
        eraseFreesAll();
        eraseOnlyFinished();
        erasedHasNothing();
        freeGoesDownAndUp();
        noSuchRequest();
        Check.end();
    }

    private static TwinTuners protectedDisk() {
        TwinTuners x = Check.fullDisk();
        x.protect(0, true);
        x.protect(1, true);
        return x;
    }

    // Terms: its second k, k being NOW less its FROM.
    private static void firstSecondIsZero() {
        TwinTuners x = new TwinTuners();
        x.request(2, 5, 3, 5, 21);
        for (int s = 0; s < 12; s++) {
            x.air(2, 100 + s);
            x.tick();
        }
        Check.due("5: FROM", x.planFrom(0), 3);
        for (int k = 0; k < 6; k++) {
            Check.due("13: second " + k, x.word(0, k), 103 + k);
        }
        Check.due("13: second 6", x.word(0, 6), -1);
        Check.due("14: all", x.recorded(0), 6);
    }

    // Terms: segment k / 4 (whole) has seconds k to k + 3 from a multiple of 4 on.
    private static void segmentsOfFour() {
        int[] lengths = {1, 3, 4, 5, 7, 8, 9, 59, 60};
        int[] segments = {1, 1, 1, 2, 2, 2, 3, 15, 15};
        for (int i = 0; i < lengths.length; i++) {
            TwinTuners x = new TwinTuners();
            x.request(0, 0, lengths[i], 5, 0);
            x.ticks(70);
            Check.due("19: after " + lengths[i], x.free(), 24 - segments[i]);
            Check.due("14: after " + lengths[i], x.recorded(0), lengths[i]);
            Check.due("18: after " + lengths[i], x.erase(0), segments[i]);
        }
    }

    private static void segmentsFromItsFrom() {
        TwinTuners x = new TwinTuners();
        x.request(0, 3, 5, 5, 0);
        int[] due = {24, 24, 24, 24, 23, 23, 23, 23, 22, 22};
        for (int s = 0; s < due.length; s++) {
            Check.due("19: at " + s, x.free(), due[s]);
            x.tick();
        }
    }

    // Terms: the DISK has 24 SEGMENTS.
    private static void twentyFourSegments() {
        TwinTuners x = new TwinTuners();
        x.request(0, 0, 60, 5, 0);
        x.request(1, 0, 60, 5, 0);
        Check.due("9: 24 segments of four", x.ticks(48), 96);
        Check.due("19: none free", x.free(), 0);
        Check.due("9: no 25th", x.ticks(1), 0);
        Check.due("15: SHORT", x.shortBy(0), 1);
        Check.due("15: SHORT", x.shortBy(1), 1);
        Check.due("13: the last that is recorded", x.word(0, 47), 0);
        Check.due("13: the first that is not", x.word(0, 48), -1);
        TwinTuners y = new TwinTuners();
        y.request(0, 0, 48, 5, 0);
        y.request(1, 0, 45, 5, 0);
        y.request(1, 45, 4, 5, 0);
        y.ticks(44);
        Check.due("19: two left", y.free(), 2);
        y.tick();
        Check.due("19: none left for a 25th", y.free(), 0);
        Check.due("4: none ERASED for the 24th", y.state(1), TwinTuners.FINISHED);
        y.tick();
        Check.due("4: one ERASED for the 25th", y.state(1), TwinTuners.ERASED);
        Check.due("15: none SHORT", y.shortBy(2), 0);
    }

    // Terms: takes one of the disk's, if it has none yet.
    private static void noRoomWithinASegment() {
        TwinTuners x = new TwinTuners();
        x.request(0, 0, 45, 5, 0);
        x.request(1, 0, 50, 5, 0);
        x.ticks(45);
        Check.due("19: none free", x.free(), 0);
        x.ticks(3);
        Check.due("4: none ERASED within a segment", x.state(0), TwinTuners.FINISHED);
        Check.due("14: recorded within it", x.recorded(1), 48);
        x.tick();
        Check.due("4: ERASED for the next segment", x.state(0), TwinTuners.ERASED);
        Check.due("14: recorded in the next", x.recorded(1), 49);
        Check.due("19: twelve less one", x.free(), 11);
    }

    // Terms: if none is free there, ROOM is made.
    private static void oneFreeIsEnough() {
        TwinTuners x = new TwinTuners();
        x.request(0, 0, 48, 5, 0);
        x.request(1, 0, 44, 5, 0);
        x.ticks(48);
        Check.due("19: one free", x.free(), 1);
        x.request(2, 48, 5, 5, 0);
        x.ticks(4);
        Check.due("4: none ERASED while one is free", x.state(1), TwinTuners.FINISHED);
        Check.due("19: none free", x.free(), 0);
        x.tick();
        Check.due("4: ERASED when none is", x.state(1), TwinTuners.ERASED);
        Check.due("4: just one", x.state(0), TwinTuners.FINISHED);
        Check.due("19: eleven less one", x.free(), 10);
    }

    // Terms: each RUNNING one, by number.
    private static void byNumber() {
        TwinTuners x = new TwinTuners();
        x.request(0, 0, 48, 5, 0);
        x.request(1, 0, 44, 5, 0);
        x.ticks(48);
        x.protect(0, true);
        x.protect(1, true);
        x.request(2, 48, 2, 1, 0);
        x.request(3, 48, 2, 9, 0);
        x.ticks(2);
        Check.due("14: the last one free for the lower number", x.recorded(2), 2);
        Check.due("15: the higher number", x.shortBy(3), 2);
    }

    // Terms: of FINISHED recordings.
    private static void notRunning() {
        TwinTuners x = new TwinTuners();
        x.request(0, 0, 50, 1, 0);
        x.request(1, 0, 48, 9, 0);
        x.ticks(48);
        x.seen(0, true);
        x.tick();
        Check.due("4: RUNNING is not ERASED", x.state(0), TwinTuners.RUNNING);
        Check.due("4: FINISHED is", x.state(1), TwinTuners.ERASED);
        Check.due("15: not SHORT", x.shortBy(0), 0);
    }

    // Terms: with segments.
    private static void notWithoutSegments() {
        TwinTuners x = protectedDisk();
        x.request(2, 48, 2, 1, 0);
        x.ticks(2);
        Check.due("14: FINISHED with nothing", x.recorded(2), 0);
        Check.due("4: FINISHED with nothing", x.state(2), TwinTuners.FINISHED);
        x.seen(2, true);
        x.protect(1, false);
        x.request(3, 50, 1, 5, 0);
        x.tick();
        Check.due("4: without segments", x.state(2), TwinTuners.FINISHED);
        Check.due("4: with segments", x.state(1), TwinTuners.ERASED);
        Check.due("14: in the room", x.recorded(3), 1);
    }

    private static void oneErasedAtATime() {
        TwinTuners x = new TwinTuners();
        for (int i = 0; i < 4; i++) {
            x.request(i, i, 1, 5, 0);
        }
        x.request(0, 4, 40, 9, 0);
        x.request(1, 4, 40, 9, 0);
        x.ticks(44);
        Check.due("19: none free", x.free(), 0);
        x.request(2, 44, 9, 9, 0);
        x.request(3, 44, 9, 9, 0);
        x.tick();
        int[] due = {5, 5, 2, 2, 2, 2};
        for (int n = 0; n < due.length; n++) {
            Check.due("4: one each for two, number " + n, x.state(n), due[n]);
        }
        x.ticks(3);
        Check.due("4: no more within the segment", x.state(2), TwinTuners.FINISHED);
        x.tick();
        Check.due("4: one more each", x.state(2), TwinTuners.ERASED);
        Check.due("4: one more each", x.state(3), TwinTuners.ERASED);
        Check.due("19: none free", x.free(), 0);
    }

    // Terms: if there is none, the second is not recorded, and the recording is one second more SHORT.
    private static void shortByOneMore() {
        TwinTuners x = protectedDisk();
        x.request(2, 48, 6, 5, 0);
        for (int s = 0; s <= 6; s++) {
            Check.due("15: after " + s, x.shortBy(2), s);
            Check.due("14: after " + s, x.recorded(2), 0);
            Check.due("8: tuned, after " + s, x.tick(), s < 6 ? 4 : 0);
        }
        Check.due("4: FINISHED", x.state(2), TwinTuners.FINISHED);
        Check.plan("FINISHED", x, 2, 48, 54);
        Check.due("15: no more", x.shortBy(2), 6);
        x.erase(2);
        Check.due("15: ERASED takes nothing from it", x.shortBy(2), 6);
        Check.due("15: not the others", x.shortBy(0) + x.shortBy(1), 0);
    }

    private static void segmentTakenLater() {
        for (int late = 1; late <= 9; late++) {
            TwinTuners x = protectedDisk();
            x.air(2, 9);
            x.request(2, 48, 10, 5, 0);
            x.ticks(late);
            x.protect(0, false);
            x.ticks(10);
            Check.due("15: room after " + late, x.shortBy(2), late);
            Check.due("14: room after " + late, x.recorded(2), 10 - late);
            for (int k = 0; k < 10; k++) {
                Check.due("13: room after " + late + ", second " + k, x.word(2, k), k < late ? -1 : 9);
            }
            Check.due("19: room after " + late, x.free(), 12 - (3 - late / 4));
        }
    }

    // Promise 13: NONE if there is none.
    private static void wordBeforeAndBehind() {
        TwinTuners x = new TwinTuners();
        x.air(0, 3);
        x.request(0, 1, 6, 5, 0);
        x.tick();
        Check.due("13: WAITING", x.word(0, 0), -1);
        x.tick();
        Check.due("13: the latest", x.word(0, 0), 3);
        Check.due("13: the next", x.word(0, 1), -1);
        x.ticks(9);
        Check.due("13: the last", x.word(0, 5), 3);
        for (int k : new int[] {-1, 6, 7, 8, -4, 77, 78, 96, LEAST, LEAST + 3, MOST, MOST - 3}) {
            Check.due("13: second " + k, x.word(0, k), -1);
        }
    }

    // Promise 13: 0 .. 2^32 - 1.
    private static void wordIsUnsigned() {
        int[] words = {0, 1, MOST, LEAST, -1};
        long[] due = {0, 1, 2147483647L, 2147483648L, 4294967295L};
        TwinTuners x = new TwinTuners();
        x.request(0, 0, 5, 5, 0);
        for (int word : words) {
            x.air(0, word);
            x.tick();
        }
        for (int k = 0; k < words.length; k++) {
            Check.due("13: word " + words[k], x.word(0, k), due[k]);
        }
    }

    // Promise 14: how many seconds are recorded.
    private static void recordedByState() {
        TwinTuners x = new TwinTuners();
        x.request(0, 1, 5, 5, 0);
        x.request(1, 1, 5, 5, 0);
        x.request(2, 1, 5, 5, 0);
        x.request(3, 9, 5, 5, 0);
        int[] due = {0, 0, 1, 2, 3, 4, 5, 5};
        for (int s = 0; s < due.length; s++) {
            Check.due("14: at " + s, x.recorded(0), due[s]);
            Check.due("14: never MISSED's", x.recorded(2), 0);
            x.tick();
        }
        x.cancel(3);
        Check.due("14: CANCELLED", x.recorded(3), 0);
        x.erase(0);
        Check.due("14: ERASED", x.recorded(0), 0);
        Check.due("14: the other one", x.recorded(1), 5);
    }

    // Promise 18: how many segments are free by that.
    private static void eraseFreesAll() {
        TwinTuners x = new TwinTuners();
        x.request(0, 9, 60, 5, 99);
        x.ticks(78);
        Check.due("19: the longest recording", x.free(), 4);
        Check.due("18: the longest recording", x.erase(0), 20);
        Check.due("19: all free", x.free(), 24);
        TwinTuners y = protectedDisk();
        y.request(2, 48, 1, 5, 0);
        y.tick();
        Check.due("18: one with no segment", y.erase(2), 0);
        Check.due("4: ERASED all the same", y.state(2), TwinTuners.ERASED);
        Check.due("18: one that is PROTECTED", y.erase(0), 12);
        Check.due("19: its twelve", y.free(), 12);
    }

    // Promise 18: IllegalState: it is not FINISHED.
    private static void eraseOnlyFinished() {
        TwinTuners x = new TwinTuners();
        x.request(0, 1, 2, 5, 0);
        x.request(1, 1, 9, 5, 0);
        x.request(2, 1, 2, 5, 0);
        x.request(3, 1, 2, 5, 0);
        Check.badState("18: WAITING", x, () -> x.erase(0));
        x.cancel(3);
        Check.badState("18: CANCELLED", x, () -> x.erase(3));
        x.ticks(2);
        Check.badState("18: RUNNING", x, () -> x.erase(0));
        Check.badState("18: MISSED", x, () -> x.erase(2));
        x.tick();
        Check.due("18: FINISHED", x.erase(0), 1);
        Check.badState("18: ERASED", x, () -> x.erase(0));
        x.cancel(1);
        Check.due("18: FINISHED by cancel", x.erase(1), 1);
    }

    // ERASED: its segments are free, its marks and BOOKMARKS gone, nothing is recorded.
    private static void erasedHasNothing() {
        TwinTuners hand = Check.fullDisk();
        mark(hand);
        hand.erase(0);
        nothingLeft("by hand", hand, 12);
        TwinTuners room = Check.fullDisk();
        mark(room);
        room.protect(0, false);
        room.request(2, 48, 1, 5, 0);
        room.tick();
        nothingLeft("for room", room, 11);
    }

    private static void mark(TwinTuners x) {
        x.protect(0, true);
        x.seen(0, true);
        x.bookmark(0, 0);
        x.bookmark(0, 99);
    }

    private static void nothingLeft(String what, TwinTuners x, int free) {
        Check.due("4: ERASED " + what, x.state(0), TwinTuners.ERASED);
        Check.due("19: ERASED " + what, x.free(), free);
        Check.due("14: ERASED " + what, x.recorded(0), 0);
        for (int k = 0; k < 48; k++) {
            Check.due("13: ERASED " + what + ", second " + k, x.word(0, k), -1);
        }
        Check.due("21: ERASED " + what, x.bookmarkAt(0, 0), -1);
        Check.due("21: ERASED " + what, x.bookmarkAt(0, 1), -1);
        Check.due("14: the other one", x.recorded(1), 48);
        Check.badState("16: ERASED " + what, x, () -> x.protect(0, true));
        Check.badState("17: ERASED " + what, x, () -> x.seen(0, true));
        Check.badState("20: ERASED " + what, x, () -> x.bookmark(0, 1));
        Check.badState("18: ERASED " + what, x, () -> x.erase(0));
        Check.badState("3: ERASED " + what, x, () -> x.cancel(0));
    }

    // Promise 19: how many segments of the disk are free.
    private static void freeGoesDownAndUp() {
        TwinTuners x = new TwinTuners();
        Check.due("19: at first", x.free(), 24);
        x.request(0, 0, 1, 5, 0);
        Check.due("19: a request takes none", x.free(), 24);
        x.tick();
        Check.due("19: a second takes one", x.free(), 23);
        x.erase(0);
        Check.due("19: back again", x.free(), 24);
        TwinTuners y = Check.fullDisk();
        Check.due("18: half of it", y.erase(0), 12);
        Check.due("19: half of it", y.free(), 12);
        Check.due("18: the other half", y.erase(1), 12);
        Check.due("19: all of it", y.free(), 24);
    }

    private static void noSuchRequest() {
        TwinTuners x = new TwinTuners();
        Check.noSuchRequest("13: word, none made,", x, n -> x.word(n, 0));
        Check.noSuchRequest("14: recorded, none made,", x, x::recorded);
        Check.noSuchRequest("15: shortBy, none made,", x, x::shortBy);
        Check.noSuchRequest("18: erase, none made,", x, x::erase);
        x.request(0, 0, 1, 5, 0);
        x.request(0, 0, 1, 5, 0);
        x.tick();
        Check.noSuchRequest("13: word", x, n -> x.word(n, 0));
        Check.noSuchRequest("13: word before 0", x, n -> x.word(n, -1));
        Check.noSuchRequest("14: recorded", x, x::recorded);
        Check.noSuchRequest("15: shortBy", x, x::shortBy);
        Check.noSuchRequest("18: erase", x, x::erase);
    }
}
