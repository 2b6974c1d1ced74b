/** Promises 16 to 19, and how room is made: protect, seen, erase, free. */
public final class RoomTest {
    public static void main(String[] args) {
        leastPriority();
        leastEnd();
        leastNumber();
        seenFirst();
        seenLeastEndThenNumber();
        marksCanBeTakenBack();
        protectedStays();
        onlyThoseWithSegments();
        roomIsMadeOnlyWhenNeeded();
        wholeRecordingGoes();
        marksGoWithErased();
        wrongStates();
        wrongNumbers();
        erase();
        Check.end();
    }

    /** Six recordings of four segments each fill the disk: a request's number is its channel. */
    private static TwinTuners full(int... priorities) {
        TwinTuners x = new TwinTuners();
        for (int i = 0; i < 6; i++) {
            x.request(i, 16 * i, 16, priorities[i], 0);
            x.air(i, 10 + i);
        }
        x.ticks(96);
        Check.due("19: full", x.free(), 0);
        return x;
    }

    private static void needRoom(TwinTuners x) {
        x.request(6, x.now(), 1, 9, 0);
        x.tick();
    }

    private static void gone(String what, TwinTuners x, int... erased) {
        StringBuilder due = new StringBuilder();
        StringBuilder got = new StringBuilder();
        for (int n : erased) {
            due.append(' ').append(n);
        }
        for (int n = 0; n < 6; n++) {
            if (x.state(n) == TwinTuners.ERASED) {
                got.append(' ').append(n);
                Check.due("14: ERASED " + n, x.recorded(n), 0);
                Check.due("13: ERASED " + n, x.word(n, 0), -1);
            } else {
                Check.due("14: kept " + n, x.recorded(n), 16);
                Check.due("13: kept " + n, x.word(n, 15), 10 + n);
            }
        }
        Check.same(what, got.toString(), due.toString());
    }

    private static void leastPriority() {
        TwinTuners x = full(5, 4, 3, 2, 6, 7);
        needRoom(x);
        gone("ERASED of the least priority", x, 3);
        Check.due("19: four less one", x.free(), 3);
        Check.due("14: recorded in the room", x.recorded(6), 1);
    }

    private static void leastEnd() {
        TwinTuners x = full(5, 4, 3, 3, 3, 7);
        needRoom(x);
        gone("ERASED of the least END", x, 2);
        TwinTuners y = new TwinTuners();
        y.request(0, 60, 16, 5, 0);
        y.request(1, 40, 16, 5, 0);
        y.request(2, 0, 60, 9, 0);
        y.ticks(76);
        Check.due("19: one left", y.free(), 1);
        y.request(6, 76, 8, 9, 0);
        y.ticks(8);
        Check.due("16: the higher number with the lesser END", y.state(1), TwinTuners.ERASED);
        Check.due("16: the lower number with the greater END", y.state(0), TwinTuners.FINISHED);
    }

    private static void leastNumber() {
        TwinTuners y = new TwinTuners();
        y.request(0, 0, 48, 5, 0);
        y.request(1, 0, 48, 5, 0);
        y.ticks(48);
        needRoom(y);
        Check.due("16: the lower number", y.state(0), TwinTuners.ERASED);
        Check.due("16: the higher number", y.state(1), TwinTuners.FINISHED);
        TwinTuners z = new TwinTuners();
        z.request(0, 0, 48, 5, 0);
        z.request(1, 0, 48, 5, 0);
        z.ticks(48);
        z.seen(0, true);
        z.seen(1, true);
        needRoom(z);
        Check.due("17: the lower number", z.state(0), TwinTuners.ERASED);
        Check.due("17: the higher number", z.state(1), TwinTuners.FINISHED);
    }

    private static void seenFirst() {
        TwinTuners x = full(1, 2, 3, 4, 9, 1);
        x.seen(4, true);
        needRoom(x);
        gone("ERASED as it is SEEN", x, 4);
    }

    private static void seenLeastEndThenNumber() {
        TwinTuners x = full(1, 9, 3, 2, 1, 1);
        x.seen(3, true);
        x.seen(1, true);
        x.seen(4, true);
        needRoom(x);
        gone("ERASED of those SEEN with the least END, whatever their priority", x, 1);
    }

    private static void marksCanBeTakenBack() {
        TwinTuners x = full(1, 2, 3, 4, 5, 6);
        x.seen(4, true);
        x.seen(4, false);
        x.protect(0, true);
        x.protect(0, false);
        needRoom(x);
        gone("ERASED when marks are taken back", x, 0);
        TwinTuners y = full(1, 2, 3, 4, 5, 6);
        y.seen(4, true);
        y.seen(4, true);
        y.protect(4, true);
        y.protect(0, true);
        needRoom(y);
        gone("ERASED when the one SEEN is PROTECTED", y, 1);
    }

    private static void protectedStays() {
        TwinTuners x = full(1, 1, 1, 1, 1, 1);
        for (int i = 0; i < 6; i++) {
            x.protect(i, true);
        }
        needRoom(x);
        gone("ERASED with all PROTECTED", x);
        Check.due("15: no room", x.shortBy(6), 1);
        Check.due("18: PROTECTED can be erased by hand", x.erase(2), 4);
        gone("ERASED by hand", x, 2);
        TwinTuners y = new TwinTuners();
        y.request(0, 0, 48, 5, 0);
        y.request(1, 0, 48, 5, 0);
        y.ticks(3);
        y.protect(0, true);
        y.seen(0, true);
        y.ticks(45);
        needRoom(y);
        Check.due("16: PROTECTED while RUNNING", y.state(0), TwinTuners.FINISHED);
        Check.due("16: not PROTECTED", y.state(1), TwinTuners.ERASED);
        TwinTuners z = new TwinTuners();
        z.request(0, 0, 48, 1, 0);
        z.request(1, 0, 48, 5, 0);
        z.ticks(3);
        z.seen(1, true);
        z.ticks(45);
        needRoom(z);
        Check.due("17: SEEN while RUNNING", z.state(1), TwinTuners.ERASED);
    }

    private static void onlyThoseWithSegments() {
        TwinTuners x = new TwinTuners();
        x.request(7, 0, 2, 1, 0);
        x.tick();
        Check.due("22: its only segment is lost", x.cut(2), 1);
        Check.due("22: FINISHED with nothing", x.state(0), TwinTuners.FINISHED);
        x.seen(0, true);
        x.request(0, 2, 48, 5, 0);
        x.request(1, 2, 48, 5, 0);
        x.ticks(48);
        needRoom(x);
        Check.due("16: without segments it stays", x.state(0), TwinTuners.FINISHED);
        Check.due("16: with segments it goes", x.state(1), TwinTuners.ERASED);
        Check.due("18: erased by hand, none free by that", x.erase(0), 0);
        Check.due("18: ERASED", x.state(0), TwinTuners.ERASED);
    }

    private static void roomIsMadeOnlyWhenNeeded() {
        TwinTuners x = new TwinTuners();
        x.request(0, 0, 44, 1, 0);
        x.request(1, 0, 48, 5, 0);
        x.ticks(48);
        Check.due("19: one left", x.free(), 1);
        x.seen(0, true);
        needRoom(x);
        Check.due("19: the last one is taken", x.free(), 0);
        Check.due("16: none ERASED for that", x.state(0), TwinTuners.FINISHED);
        needRoom(x);
        Check.due("16: ERASED for the next", x.state(0), TwinTuners.ERASED);
        Check.due("19: its eleven less one", x.free(), 10);
    }

    private static void wholeRecordingGoes() {
        TwinTuners x = full(1, 2, 3, 4, 5, 6);
        x.request(6, 96, 20, 9, 0);
        Check.due("9: all recorded", x.ticks(20), 20);
        Check.due("15: not short", x.shortBy(6), 0);
        gone("ERASED one after the other", x, 0, 1);
        Check.due("19: of eight five are taken", x.free(), 3);
    }

    private static void marksGoWithErased() {
        TwinTuners x = full(1, 2, 3, 4, 5, 6);
        x.bookmark(0, 5);
        x.bookmark(0, 3);
        x.seen(0, true);
        needRoom(x);
        Check.due("21: bookmarks gone", x.bookmarkAt(0, 0), -1);
        gone("ERASED with its bookmarks", x, 0);
    }

    private static void wrongStates() {
        TwinTuners x = new TwinTuners();
        x.request(0, 5, 5, 9, 0);
        x.request(1, 5, 5, 9, 0);
        x.request(2, 5, 5, 1, 0);
        refuseMarks("WAITING", x, 0);
        x.cancel(1);
        refuseMarks("CANCELLED", x, 1);
        x.request(3, 5, 5, 9, 0);
        x.ticks(6);
        refuseMarks("MISSED", x, 2);
        Check.badState("18: erase RUNNING", x, () -> x.erase(0));
        x.protect(0, true);
        x.seen(0, true);
        x.ticks(5);
        x.protect(0, false);
        x.seen(0, false);
        x.erase(0);
        refuseMarks("ERASED", x, 0);
    }

    private static void refuseMarks(String which, TwinTuners x, int n) {
        for (boolean on : new boolean[] {true, false}) {
            Check.badState("16: protect " + which, x, () -> x.protect(n, on));
            Check.badState("17: seen " + which, x, () -> x.seen(n, on));
        }
        Check.badState("18: erase " + which, x, () -> x.erase(n));
    }

    private static void wrongNumbers() {
        TwinTuners x = new TwinTuners();
        x.request(0, 0, 1, 9, 0);
        x.tick();
        for (int n : new int[] {-1, 1, 40, Integer.MIN_VALUE, Integer.MAX_VALUE}) {
            Check.outOfBounds("16: protect " + n, x, () -> x.protect(n, true));
            Check.outOfBounds("17: seen " + n, x, () -> x.seen(n, true));
            Check.outOfBounds("18: erase " + n, x, () -> x.erase(n));
        }
    }

    private static void erase() {
        TwinTuners x = new TwinTuners();
        x.request(0, 0, 9, 9, 0);
        x.request(1, 0, 8, 9, 0);
        x.ticks(9);
        Check.due("19: five taken", x.free(), 19);
        Check.due("18: three free by that", x.erase(0), 3);
        Check.due("19: two taken", x.free(), 22);
        Check.due("14: the other one is kept", x.recorded(1), 8);
        Check.due("18: two free by that", x.erase(1), 2);
        Check.due("19: all free", x.free(), 24);
        x.request(1, 9, 4, 9, 0);
        x.ticks(2);
        Check.due("13: nothing of the erased in a segment used again", x.word(2, 2), -1);
        Check.due("14: nothing of the erased counts", x.recorded(2), 2);
    }
}
