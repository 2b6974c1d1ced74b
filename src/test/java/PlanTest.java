/** Promises 5 and 6, and the plan at NOW behind them. */
public final class PlanTest {
    public static void main(String[] args) {
        coresByPriorityThenNumber();
        oneChannelTwice();
        coresComeBeforePaddings();
        afterComesBeforeBefore();
        paddingIsAllOrNothing();
        paddingBeforeNotBeforeNow();
        paddingsByPriority();
        runningPadsBeforeWaiting();
        runningPadsByPriority();
        runningIsNotPutOff();
        runningPastItsCoreKeepsItsEnd();
        endChangesWithThePlan();
        crowdedOnlyInTheMiddle();
        afterTheRun();
        wrongInputs();
        Check.end();
    }

    private static void coresByPriorityThenNumber() {
        TwinTuners x = new TwinTuners();
        x.request(0, 10, 5, 3, 0);
        x.request(1, 10, 5, 3, 0);
        x.request(2, 10, 5, 3, 0);
        Check.plan("least numbers first", x, 0, 10, 15);
        Check.plan("least numbers first", x, 1, 10, 15);
        Check.plan("no tuner left", x, 2, -1, -1);
        x.request(3, 14, 5, 4, 0);
        Check.plan("higher priority", x, 3, 14, 19);
        Check.plan("lowest number still fits", x, 0, 10, 15);
        Check.plan("pushed out by the higher priority", x, 1, -1, -1);
        Check.plan("also out", x, 2, -1, -1);
        x.cancel(0);
        Check.plan("fits after a cancel", x, 1, 10, 15);
        x.request(4, 15, 1, 1, 0);
        Check.plan("touching is not overlapping", x, 4, 15, 16);
    }

    private static void oneChannelTwice() {
        TwinTuners x = new TwinTuners();
        x.request(0, 10, 5, 3, 0);
        x.request(1, 10, 5, 3, 0);
        x.request(1, 8, 20, 1, 0);
        x.request(0, 12, 9, 1, 0);
        Check.plan("a channel taken twice is one", x, 2, 8, 28);
        Check.plan("both channels shared", x, 3, 12, 21);
    }

    private static void coresComeBeforePaddings() {
        TwinTuners x = new TwinTuners();
        x.request(0, 10, 5, 9, 22);
        x.request(1, 10, 5, 9, 22);
        x.request(2, 15, 5, 1, 0);
        x.request(3, 8, 2, 1, 0);
        Check.plan("low core before high padding", x, 2, 15, 20);
        Check.plan("low core before high padding", x, 3, 8, 10);
        Check.plan("the first padding fits beside", x, 0, 8, 17);
        Check.plan("the second padding does not", x, 1, 10, 15);
    }

    private static void afterComesBeforeBefore() {
        TwinTuners x = new TwinTuners();
        x.request(0, 0, 30, 9, 0);
        x.request(1, 10, 5, 5, 3);
        x.request(2, 18, 5, 4, 30);
        Check.plan("AFTER of the higher priority", x, 1, 10, 18);
        Check.plan("BEFORE has no room", x, 2, 18, 23);
        TwinTuners y = new TwinTuners();
        y.request(0, 0, 30, 9, 0);
        y.request(1, 10, 5, 4, 3);
        y.request(2, 18, 5, 5, 30);
        Check.plan("BEFORE of the higher priority", y, 2, 15, 23);
        Check.plan("AFTER has no room", y, 1, 10, 15);
    }

    private static void paddingIsAllOrNothing() {
        TwinTuners x = new TwinTuners();
        x.request(0, 0, 40, 9, 0);
        x.request(1, 10, 5, 5, 44);
        x.request(2, 18, 5, 5, 0);
        x.request(3, 5, 2, 5, 0);
        Check.plan("three of four free is nothing", x, 1, 10, 15);
        TwinTuners y = new TwinTuners();
        y.request(0, 0, 40, 9, 0);
        y.request(1, 10, 5, 5, 44);
        y.request(2, 19, 5, 5, 0);
        y.request(3, 4, 2, 5, 0);
        Check.plan("four of four free", y, 1, 6, 19);
    }

    private static void paddingBeforeNotBeforeNow() {
        TwinTuners x = new TwinTuners();
        x.request(0, 3, 5, 5, 30);
        Check.plan("BEFORE from NOW on", x, 0, 0, 8);
        TwinTuners y = new TwinTuners();
        y.request(0, 3, 5, 5, 40);
        Check.plan("BEFORE would begin before NOW", y, 0, 3, 8);
        Check.due("5: not RUNNING in its BEFORE", y.ticks(3), 0);
        Check.due("5: RUNNING from its start", y.tick(), 1);
        Check.plan("began at its start", y, 0, 3, 8);
        TwinTuners z = new TwinTuners();
        z.request(0, 5, 3, 5, 20);
        z.cut(4);
        Check.plan("BEFORE cut off by a power cut", z, 0, 5, 8);
    }

    private static void paddingsByPriority() {
        TwinTuners x = new TwinTuners();
        x.request(0, 0, 40, 9, 0);
        x.request(1, 10, 5, 2, 2);
        x.request(2, 17, 5, 3, 20);
        Check.plan("higher BEFORE", x, 2, 15, 22);
        Check.plan("lower AFTER", x, 1, 10, 15);
        TwinTuners y = new TwinTuners();
        y.request(0, 0, 40, 9, 0);
        y.request(1, 17, 5, 3, 20);
        y.request(2, 10, 5, 3, 2);
        Check.plan("lower number's BEFORE", y, 1, 15, 22);
        Check.plan("higher number's AFTER", y, 2, 10, 15);
    }

    private static void runningPadsBeforeWaiting() {
        TwinTuners x = new TwinTuners();
        x.request(0, 0, 40, 9, 0);
        x.request(1, 2, 5, 1, 4);
        x.request(2, 11, 5, 9, 40);
        Check.plan("WAITING both: the higher one's", x, 2, 7, 16);
        Check.plan("WAITING both: the lower one's", x, 1, 2, 7);
        x.ticks(3);
        Check.plan("RUNNING first", x, 1, 2, 11);
        Check.plan("WAITING then", x, 2, 11, 16);
    }

    private static void runningPadsByPriority() {
        // The core from 7 on leaves one tuner for the two paddings.
        TwinTuners x = new TwinTuners();
        x.request(0, 0, 5, 3, 4);
        x.request(1, 0, 5, 4, 4);
        x.request(2, 7, 5, 9, 0);
        x.tick();
        Check.plan("the higher one's AFTER", x, 1, 0, 9);
        Check.plan("the lower one's AFTER", x, 0, 0, 5);
        TwinTuners y = new TwinTuners();
        y.request(0, 0, 5, 4, 4);
        y.request(1, 0, 5, 4, 4);
        y.request(2, 7, 5, 9, 0);
        y.tick();
        Check.plan("the lower number's AFTER", y, 0, 0, 9);
        Check.plan("the higher number's AFTER", y, 1, 0, 5);
    }

    private static void runningIsNotPutOff() {
        TwinTuners x = new TwinTuners();
        x.request(0, 0, 10, 1, 0);
        x.request(1, 4, 10, 1, 40);
        x.tick();
        x.request(2, 2, 5, 9, 0);
        x.request(3, 10, 3, 9, 0);
        Check.plan("RUNNING keeps its tuner", x, 0, 0, 10);
        Check.plan("RUNNING in its BEFORE keeps it to its core's end", x, 1, 0, 14);
        Check.plan("higher priority comes too late", x, 2, -1, -1);
        Check.plan("fits behind the first", x, 3, 10, 13);
        x.ticks(2);
        Check.due("4: it is MISSED", x.state(2), TwinTuners.MISSED);
    }

    private static void runningPastItsCoreKeepsItsEnd() {
        TwinTuners x = new TwinTuners();
        x.request(0, 0, 3, 1, 5);
        x.request(1, 0, 20, 1, 0);
        x.ticks(2);
        Check.plan("in its core", x, 0, 0, 8);
        x.tick();
        x.request(2, 5, 2, 9, 0);
        Check.plan("past its core, to its END", x, 0, 0, 8);
        Check.plan("does not fit beside that", x, 2, -1, -1);
        x.request(3, 8, 2, 9, 0);
        Check.plan("fits behind it", x, 3, 8, 10);
        x.ticks(4);
        Check.due("4: runs to its END", x.state(0), TwinTuners.RUNNING);
        x.tick();
        Check.due("4: FINISHED at its END", x.state(0), TwinTuners.FINISHED);
        Check.due("14: recorded with its AFTER", x.recorded(0), 8);
    }

    private static void endChangesWithThePlan() {
        TwinTuners x = new TwinTuners();
        x.request(0, 0, 4, 1, 5);
        x.request(1, 0, 20, 1, 0);
        x.tick();
        x.request(2, 6, 2, 1, 0);
        Check.plan("loses its AFTER to a core", x, 0, 0, 4);
        x.cancel(2);
        Check.plan("has it again", x, 0, 0, 9);
        x.request(3, 6, 2, 1, 0);
        x.ticks(3);
        Check.due("4: FINISHED at its core's end", x.state(0), TwinTuners.FINISHED);
        Check.plan("its END", x, 0, 0, 4);
    }

    private static void crowdedOnlyInTheMiddle() {
        TwinTuners x = new TwinTuners();
        x.request(0, 20, 1, 9, 0);
        x.request(1, 20, 1, 9, 0);
        x.request(2, 10, 20, 8, 0);
        Check.plan("one crowded second is enough", x, 2, -1, -1);
        x.request(3, 10, 10, 8, 1);
        Check.plan("a crowded AFTER", x, 3, 10, 20);
        x.request(4, 21, 10, 8, 10);
        Check.plan("a crowded BEFORE", x, 4, 21, 31);
    }

    private static void afterTheRun() {
        TwinTuners x = new TwinTuners();
        x.request(0, 2, 3, 5, 11);
        x.request(1, 2, 3, 4, 0);
        x.request(2, 2, 3, 3, 0);
        x.ticks(2);
        Check.plan("RUNNING from its BEFORE", x, 0, 1, 6);
        x.ticks(10);
        Check.plan("FINISHED", x, 0, 1, 6);
        Check.plan("FINISHED without padding", x, 1, 2, 5);
        Check.plan("MISSED", x, 2, -1, -1);
        x.erase(0);
        Check.plan("ERASED, but it ran", x, 0, 1, 6);
    }

    private static void wrongInputs() {
        TwinTuners x = new TwinTuners();
        x.request(0, 2, 3, 5, 11);
        for (int n : new int[] {-1, 1, 40, Integer.MIN_VALUE, Integer.MAX_VALUE}) {
            Check.outOfBounds("5: planFrom " + n, x, () -> x.planFrom(n));
            Check.outOfBounds("6: planTo " + n, x, () -> x.planTo(n));
        }
    }
}
