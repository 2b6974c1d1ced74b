/** Promises 7 to 10: air, tick, ticks, now. */
public final class TickTest {
    public static void main(String[] args) {
        air();
        tuned();
        ticks();
        now();
        Check.end();
    }

    private static void air() {
        TwinTuners x = new TwinTuners();
        x.request(0, 0, 5, 1, 0);
        x.request(7, 0, 5, 1, 0);
        x.tick();
        x.air(0, 5);
        x.tick();
        x.air(0, Integer.MIN_VALUE);
        x.air(0, 6);
        x.air(7, -2);
        x.ticks(3);
        long[] first = {0, 5, 6, 6, 6};
        long[] other = {0, 0, 4294967294L, 4294967294L, 4294967294L};
        for (int k = 0; k < 5; k++) {
            Check.due("7: channel 0, second " + k, x.word(0, k), first[k]);
            Check.due("7: channel 7, second " + k, x.word(1, k), other[k]);
        }
        for (int c : new int[] {-1, 8, Integer.MIN_VALUE, Integer.MAX_VALUE}) {
            Check.outOfBounds("7: air " + c, x, () -> x.air(c, 1));
        }
    }

    private static void tuned() {
        TwinTuners x = new TwinTuners();
        Check.due("8: nothing", x.tick(), 0);
        x.watch(7);
        Check.due("8: the watched one", x.tick(), 128);
        x.request(0, 2, 3, 1, 0);
        x.request(0, 3, 1, 1, 0);
        Check.due("8: watched and recorded", x.tick(), 129);
        Check.due("8: one channel for two requests", x.tick(), 129);
        x.request(5, 4, 2, 1, 0);
        Check.due("8: watched not SERVED", x.tick(), 33);
        Check.due("8: SERVED again", x.tick(), 160);
        x.watch(-1);
        Check.due("8: nothing again", x.tick(), 0);
        x.watch(3);
        x.request(3, 7, 2, 1, 0);
        x.request(4, 7, 2, 1, 0);
        Check.due("8: watched is tuned anyway", x.tick(), 24);
        Check.due("10: now", x.now(), 8);
    }

    private static void ticks() {
        TwinTuners x = new TwinTuners();
        x.request(0, 2, 3, 1, 0);
        x.request(1, 3, 3, 1, 0);
        x.request(1, 3, 1, 1, 0);
        Check.due("9: none recorded", x.ticks(2), 0);
        Check.due("9: one and three", x.ticks(2), 4);
        Check.due("9: the rest", x.ticks(100), 3);
        Check.due("10: now", x.now(), 104);
        for (int n : new int[] {0, -1, 101, Integer.MIN_VALUE, Integer.MAX_VALUE}) {
            Check.badArgument("9: ticks " + n, x, () -> x.ticks(n));
        }
        Check.due("9: least", x.ticks(1), 0);
        Check.due("10: now", x.now(), 105);
        secondsNotRecordedDoNotCount();
    }

    private static void secondsNotRecordedDoNotCount() {
        TwinTuners x = new TwinTuners();
        x.request(0, 0, 60, 1, 0);
        x.request(1, 0, 60, 1, 0);
        Check.due("9: 24 segments of 4", x.ticks(60), 96);
        Check.due("15: short", x.shortBy(0) + x.shortBy(1), 24);
    }

    private static void now() {
        TwinTuners x = new TwinTuners();
        x.tick();
        Check.due("10: after a tick", x.now(), 1);
        x.ticks(9);
        Check.due("10: after ticks", x.now(), 10);
        x.cut(10);
        Check.due("10: after a cut to NOW", x.now(), 10);
        x.cut(1010);
        Check.due("10: after a cut", x.now(), 1010);
    }
}
