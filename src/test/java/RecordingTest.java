/** Promises 13 to 15 and 19: word, recorded, shortBy, free. */
public final class RecordingTest {
    public static void main(String[] args) {
        words();
        longest();
        segments();
        shortThenRoom();
        byNumber();
        wrongInputs();
        Check.end();
    }

    private static void words() {
        TwinTuners x = new TwinTuners();
        x.request(3, 2, 4, 5, 11);
        for (int s = 0; s < 10; s++) {
            x.air(3, s == 3 ? -7 : 10 + s);
            x.tick();
            if (s == 2) {
                Check.due("13: while RUNNING", x.word(0, 1), 12);
                Check.due("13: not yet", x.word(0, 2), -1);
                Check.due("14: while RUNNING", x.recorded(0), 2);
            }
        }
        long[] due = {11, 12, 4294967289L, 14, 15, 16, -1, -1, -1};
        for (int k = 0; k < due.length; k++) {
            Check.due("13: second " + k, x.word(0, k), due[k]);
        }
        for (int k : new int[] {-1, -4, 78, 100, Integer.MIN_VALUE, Integer.MAX_VALUE}) {
            Check.due("13: second " + k, x.word(0, k), -1);
        }
        Check.due("14: with padding", x.recorded(0), 6);
        Check.due("15: not short", x.shortBy(0), 0);
        x.erase(0);
        Check.due("13: ERASED", x.word(0, 0), -1);
        Check.due("14: ERASED", x.recorded(0), 0);
    }

    private static void longest() {
        TwinTuners x = new TwinTuners();
        x.request(3, 9, 60, 5, 99);
        for (int s = 0; s < 78; s++) {
            x.air(3, s + 1);
            x.tick();
        }
        Check.due("14: longest", x.recorded(0), 78);
        Check.due("19: longest", x.free(), 4);
        for (int k = 0; k < 78; k++) {
            Check.due("13: longest, second " + k, x.word(0, k), k + 1);
        }
        Check.due("13: behind the longest", x.word(0, 78), -1);
    }

    private static void segments() {
        TwinTuners x = new TwinTuners();
        x.request(0, 0, 9, 5, 0);
        x.request(0, 1, 4, 5, 0);
        int[] due = {24, 23, 22, 22, 22, 21, 21, 21, 21, 20, 20};
        for (int s = 0; s < due.length; s++) {
            Check.due("19: free at " + s, x.free(), due[s]);
            x.tick();
        }
        Check.due("14: first", x.recorded(0), 9);
        Check.due("14: second", x.recorded(1), 4);
    }

    private static void shortThenRoom() {
        TwinTuners x = new TwinTuners();
        for (int i = 0; i < 6; i++) {
            x.request(i, 16 * i, 16, 5, 0);
        }
        x.ticks(96);
        for (int i = 0; i < 6; i++) {
            x.protect(i, true);
        }
        Check.due("19: full", x.free(), 0);
        x.request(6, 96, 10, 5, 0);
        x.air(6, 66);
        Check.due("9: nothing recorded", x.ticks(2), 0);
        Check.due("15: two short", x.shortBy(6), 2);
        Check.due("13: a short second", x.word(6, 0), -1);
        Check.due("8: tuned although short", x.tick(), 64);
        x.erase(3);
        Check.due("9: the segment is taken late", x.ticks(2), 2);
        Check.due("15: three short", x.shortBy(6), 3);
        Check.due("13: short second", x.word(6, 2), -1);
        Check.due("13: late second", x.word(6, 3), 66);
        Check.due("13: next segment", x.word(6, 4), 66);
        x.ticks(10);
        Check.due("14: late", x.recorded(6), 7);
        Check.due("15: late", x.shortBy(6), 3);
        Check.due("19: late", x.free(), 1);
        x.erase(6);
        Check.due("14: ERASED", x.recorded(6), 0);
        Check.due("15: SHORT stays when ERASED", x.shortBy(6), 3);
        Check.due("15: not short", x.shortBy(0), 0);
    }

    private static void byNumber() {
        TwinTuners x = new TwinTuners();
        x.request(0, 0, 60, 5, 0);
        x.request(1, 0, 36, 5, 0);
        x.ticks(36);
        x.protect(1, true);
        x.request(1, 36, 24, 9, 0);
        x.request(1, 36, 1, 9, 0);
        x.tick();
        x.protect(3, true);
        x.ticks(7);
        Check.due("19: one left for two", x.free(), 1);
        x.ticks(4);
        Check.due("15: the lower number has it", x.shortBy(0), 0);
        Check.due("15: the higher number is short", x.shortBy(2), 4);
        Check.due("14: the higher number's", x.recorded(2), 8);
    }

    private static void wrongInputs() {
        TwinTuners x = new TwinTuners();
        Check.outOfBounds("13: word with no request", x, () -> x.word(0, 0));
        x.request(0, 0, 1, 1, 0);
        x.tick();
        for (int n : new int[] {-1, 1, 40, Integer.MIN_VALUE, Integer.MAX_VALUE}) {
            Check.outOfBounds("13: word " + n, x, () -> x.word(n, 0));
            Check.outOfBounds("13: word " + n + " before 0", x, () -> x.word(n, -1));
            Check.outOfBounds("14: recorded " + n, x, () -> x.recorded(n));
            Check.outOfBounds("15: shortBy " + n, x, () -> x.shortBy(n));
        }
    }
}
