/** Promises 11 and 12: watch, back. */
public final class WatchTest {
    public static void main(String[] args) {
        watch();
        backIsUnsigned();
        atMostThirty();
        sinceWatch();
        sinceNotServed();
        sinceCut();
        Check.end();
    }

    private static void watch() {
        TwinTuners x = new TwinTuners();
        Check.due("11: nothing was", x.watch(0), -1);
        Check.due("11: 0 was", x.watch(7), 0);
        Check.due("11: 7 was", x.watch(-1), 7);
        Check.due("11: none was", x.watch(-1), -1);
        Check.due("11: none was", x.watch(4), -1);
        x.air(4, 9);
        x.tick();
        for (int c : new int[] {-2, 8, Integer.MIN_VALUE, Integer.MAX_VALUE}) {
            Check.outOfBounds("11: watch " + c, x, () -> x.watch(c));
        }
        Check.due("11: refused ones change nothing", x.tick(), 16);
        Check.due("12: nor what is kept", x.back(2), 9);
        Check.due("11: nor what was watched", x.watch(1), 4);
    }

    private static void backIsUnsigned() {
        TwinTuners x = new TwinTuners();
        x.watch(2);
        x.air(2, -1);
        x.tick();
        x.air(2, Integer.MIN_VALUE);
        x.tick();
        x.air(2, Integer.MAX_VALUE);
        x.tick();
        Check.due("12: latest", x.back(1), 2147483647L);
        Check.due("12: two ago", x.back(2), 2147483648L);
        Check.due("12: three ago", x.back(3), 4294967295L);
        for (int k : new int[] {0, -1, 4, 30, 31, Integer.MIN_VALUE, Integer.MAX_VALUE}) {
            Check.due("12: back " + k, x.back(k), -1);
        }
    }

    private static void atMostThirty() {
        TwinTuners x = new TwinTuners();
        x.watch(6);
        for (int s = 0; s < 75; s++) {
            x.air(6, 100 + s);
            x.tick();
            int kept = Math.min(s + 1, 30);
            Check.due("12: latest at " + s, x.back(1), 100 + s);
            Check.due("12: earliest at " + s, x.back(kept), 100 + s - kept + 1);
            Check.due("12: before that at " + s, x.back(kept + 1), -1);
        }
    }

    private static void sinceWatch() {
        TwinTuners x = new TwinTuners();
        x.watch(1);
        x.ticks(5);
        Check.due("12: five", x.back(5), 0);
        x.watch(1);
        Check.due("12: the same one watched anew", x.back(1), -1);
        x.ticks(2);
        Check.due("12: two", x.back(2), 0);
        Check.due("12: not three", x.back(3), -1);
        x.watch(-1);
        Check.due("12: nothing watched", x.back(1), -1);
        x.ticks(2);
        Check.due("12: nothing watched still", x.back(1), -1);
        x.watch(3);
        x.air(3, 33);
        x.tick();
        Check.due("12: another channel", x.back(1), 33);
        Check.due("12: not the earlier one's", x.back(2), -1);
    }

    private static void sinceNotServed() {
        TwinTuners x = new TwinTuners();
        x.watch(2);
        x.air(2, 22);
        x.request(0, 2, 2, 1, 0);
        x.request(1, 3, 2, 1, 0);
        x.request(2, 4, 3, 1, 0);
        x.ticks(3);
        Check.due("12: SERVED by the second tuner", x.back(3), 22);
        x.tick();
        Check.due("12: not SERVED", x.back(1), -1);
        Check.due("8: watched and tuned", x.tick(), 6);
        Check.due("12: SERVED as it is recorded", x.back(1), 22);
        Check.due("12: not before that", x.back(2), -1);
    }

    private static void sinceCut() {
        TwinTuners x = new TwinTuners();
        x.watch(2);
        x.air(2, 22);
        x.ticks(3);
        Check.badArgument("22: cut before NOW", x, () -> x.cut(2));
        Check.due("12: a refused cut changes nothing", x.back(3), 22);
        x.cut(3);
        Check.due("12: after a cut", x.back(1), -1);
        Check.due("8: still watched", x.tick(), 4);
        Check.due("12: still on the air", x.back(1), 22);
        Check.due("12: not before the cut", x.back(2), -1);
        Check.due("11: still watched", x.watch(0), 2);
    }
}
