/** Promises 1 to 4: a new object, request, cancel, state. */
public final class RequestTest {
    public static void main(String[] args) {
        newObject();
        numbersAndLimits();
        badRequests();
        limitsMoveWithNow();
        twelveOpen();
        fortyInAll();
        cancel();
        state();
        Check.end();
    }

    private static void newObject() {
        TwinTuners x = new TwinTuners();
        Check.due("1: now", x.now(), 0);
        Check.due("1: requests", Check.countRequests(x), 0);
        Check.due("1: free", x.free(), 24);
        Check.due("1: back", x.back(1), TwinTuners.NONE);
        Check.due("1: tuned with nothing watched", x.tick(), 0);
        Check.due("1: back after a tick", x.back(1), TwinTuners.NONE);
        Check.due("1: what was watched", x.watch(0), TwinTuners.NONE);
        TwinTuners words = new TwinTuners();
        for (int c = 0; c < 8; c++) {
            words.watch(c);
            words.tick();
            Check.due("1: first word of channel " + c, words.back(1), 0);
        }
    }

    private static void numbersAndLimits() {
        TwinTuners x = new TwinTuners();
        Check.due("2: first", x.request(0, 0, 1, 1, 0), 0);
        Check.due("2: second", x.request(7, 1000, 60, 9, 99), 1);
        Check.due("2: third", x.request(3, 500, 30, 5, 37), 2);
        Check.due("2: BEFORE is the tens", x.planFrom(2), 497);
        Check.due("2: AFTER is the ones", x.planTo(2), 537);
        Check.due("2: all pads, from", x.planFrom(1), 991);
        Check.due("2: all pads, to", x.planTo(1), 1069);
    }

    private static void badRequests() {
        TwinTuners x = new TwinTuners();
        x.request(1, 5, 5, 5, 11);
        int least = Integer.MIN_VALUE;
        int most = Integer.MAX_VALUE;
        int[][] bad = {
            {-1, 0, 1, 1, 0}, {8, 0, 1, 1, 0}, {least, 0, 1, 1, 0}, {most, 0, 1, 1, 0},
            {0, -1, 1, 1, 0}, {0, 1001, 1, 1, 0}, {0, least, 1, 1, 0}, {0, most, 1, 1, 0},
            {0, 0, 0, 1, 0}, {0, 0, 61, 1, 0}, {0, 0, least, 1, 0}, {0, 0, most, 1, 0},
            {0, 0, 1, 0, 0}, {0, 0, 1, 10, 0}, {0, 0, 1, least, 0}, {0, 0, 1, most, 0},
            {0, 0, 1, 1, -1}, {0, 0, 1, 1, 100}, {0, 0, 1, 1, least}, {0, 0, 1, 1, most},
        };
        for (int[] b : bad) {
            Check.badArgument("2: request " + java.util.Arrays.toString(b), x,
                    () -> x.request(b[0], b[1], b[2], b[3], b[4]));
        }
        Check.due("2: number after refusals", x.request(1, 5, 5, 5, 11), 1);
    }

    private static void limitsMoveWithNow() {
        TwinTuners x = new TwinTuners();
        x.ticks(7);
        Check.badArgument("2: start before NOW", x, () -> x.request(0, 6, 1, 1, 0));
        Check.badArgument("2: start too far", x, () -> x.request(0, 1008, 1, 1, 0));
        Check.due("2: start at NOW", x.request(0, 7, 1, 1, 0), 0);
        Check.due("2: start 1000 behind NOW", x.request(0, 1007, 1, 1, 0), 1);
    }

    private static void twelveOpen() {
        TwinTuners x = new TwinTuners();
        x.request(0, 0, 2, 9, 0);
        for (int i = 1; i < 12; i++) {
            x.request(0, 100 + 5 * i, 1, 1, 0);
        }
        Check.badState("2: thirteenth", x, () -> x.request(0, 50, 1, 1, 0));
        Check.badArgument("2: bad and thirteenth", x, () -> x.request(0, 50, 0, 1, 0));
        x.tick();
        Check.badState("2: thirteenth with one RUNNING", x, () -> x.request(0, 50, 1, 1, 0));
        x.tick();
        Check.due("2: when one is FINISHED", x.request(0, 50, 1, 1, 0), 12);
        Check.badState("2: thirteenth again", x, () -> x.request(0, 50, 1, 1, 0));
        x.cancel(5);
        Check.due("2: when one is CANCELLED", x.request(0, 60, 1, 1, 0), 13);
    }

    private static void fortyInAll() {
        TwinTuners x = new TwinTuners();
        for (int i = 0; i < 40; i++) {
            Check.due("2: of forty", x.request(i % 8, 10, 1, 1, 0), i);
            x.cancel(i);
        }
        Check.badState("2: forty-first", x, () -> x.request(0, 10, 1, 1, 0));
        Check.badArgument("2: bad forty-first", x, () -> x.request(8, 10, 1, 1, 0));
    }

    private static void cancel() {
        TwinTuners x = new TwinTuners();
        x.request(0, 0, 10, 5, 0);
        x.request(1, 20, 10, 5, 0);
        x.ticks(3);
        x.cancel(0);
        Check.due("3: RUNNING is FINISHED", x.state(0), TwinTuners.FINISHED);
        Check.due("3: with NOW as its END", x.planTo(0), 3);
        Check.due("3: keeps its FROM", x.planFrom(0), 0);
        Check.due("3: keeps what is recorded", x.recorded(0), 3);
        Check.due("3: no longer tuned", x.tick(), 0);
        x.cancel(1);
        Check.due("3: WAITING is CANCELLED", x.state(1), TwinTuners.CANCELLED);
        Check.due("3: CANCELLED is not planned from", x.planFrom(1), TwinTuners.NONE);
        Check.due("3: CANCELLED is not planned to", x.planTo(1), TwinTuners.NONE);
        Check.badState("3: cancel FINISHED", x, () -> x.cancel(0));
        Check.badState("3: cancel CANCELLED", x, () -> x.cancel(1));
        x.erase(0);
        Check.badState("3: cancel ERASED", x, () -> x.cancel(0));
        x.request(2, 5, 1, 1, 0);
        x.cut(6);
        Check.badState("3: cancel MISSED", x, () -> x.cancel(2));
        Check.outOfBounds("3: cancel -1", x, () -> x.cancel(-1));
        Check.outOfBounds("3: cancel 3 of 3", x, () -> x.cancel(3));
        Check.outOfBounds("3: cancel the least", x, () -> x.cancel(Integer.MIN_VALUE));
        Check.outOfBounds("3: cancel the most", x, () -> x.cancel(Integer.MAX_VALUE));
    }

    private static void state() {
        TwinTuners x = new TwinTuners();
        x.request(0, 1, 2, 5, 0);
        x.request(1, 1, 2, 5, 0);
        x.request(2, 1, 2, 5, 0);
        Check.due("4: WAITING", x.state(0), TwinTuners.WAITING);
        x.tick();
        Check.due("4: WAITING until its start", x.state(0), TwinTuners.WAITING);
        Check.due("4: not MISSED before its start", x.state(2), TwinTuners.WAITING);
        x.tick();
        Check.due("4: RUNNING", x.state(0), TwinTuners.RUNNING);
        Check.due("4: MISSED", x.state(2), TwinTuners.MISSED);
        x.tick();
        Check.due("4: FINISHED", x.state(0), TwinTuners.FINISHED);
        x.erase(0);
        Check.due("4: ERASED", x.state(0), TwinTuners.ERASED);
        Check.outOfBounds("4: state -1", x, () -> x.state(-1));
        Check.outOfBounds("4: state 3 of 3", x, () -> x.state(3));
        Check.outOfBounds("4: state the most", x, () -> x.state(Integer.MAX_VALUE));
    }
}
