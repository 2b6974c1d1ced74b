import java.util.function.IntConsumer;

/** What the tests share: answers compared, throws looked at, all that an object tells written down. */
final class Check {
    interface Call {
        void run();
    }

    private static int wrong = 0;

    private Check() {
    }

    static void due(String what, long got, long want) {
        if (got != want) {
            report(what + " answered " + got + ", due is " + want);
        }
    }

    static void same(String what, String got, String want) {
        if (!got.equals(want)) {
            report(what + " is " + got + ", due is " + want);
        }
    }

    static void report(String fault) {
        wrong++;
        System.out.println(fault);
    }

    static int faults() {
        return wrong;
    }

    static boolean isClean() {
        return wrong == 0;
    }

    /** The call must throw just this exception, and x must tell the same before and after. */
    static void refused(String what, TwinTuners x, Class<? extends RuntimeException> due, Call call) {
        String before = tell(x);
        String got = "nothing";
        try {
            call.run();
        } catch (RuntimeException e) {
            got = e.getClass().getName();
        }
        same("what " + what + " throws", got, due.getName());
        same("the state after " + what, tell(x), before);
    }

    static void outOfBounds(String what, TwinTuners x, Call call) {
        refused(what, x, IndexOutOfBoundsException.class, call);
    }

    static void badArgument(String what, TwinTuners x, Call call) {
        refused(what, x, IllegalArgumentException.class, call);
    }

    static void badState(String what, TwinTuners x, Call call) {
        refused(what, x, IllegalStateException.class, call);
    }

    /** Each number just outside 0 .. count - 1, and those farthest out, must be refused; the last one must not be. */
    static void noSuchRequest(String what, TwinTuners x, IntConsumer call) {
        int count = countRequests(x);
        for (int n : new int[] {-1, count, 40, 41, Integer.MIN_VALUE, Integer.MAX_VALUE}) {
            if (n < 0 || n >= count) {
                outOfBounds(what + " of request " + n, x, () -> call.accept(n));
            }
        }
        if (count > 0) {
            taken(what + " of request " + (count - 1), () -> call.accept(count - 1));
        }
    }

    static void taken(String what, Call call) {
        try {
            call.run();
        } catch (RuntimeException e) {
            report(what + " throws " + e.getClass().getName() + ", due is an answer");
        }
    }

    static void plan(String what, TwinTuners x, int request, int from, int to) {
        due("5: planFrom, " + what, x.planFrom(request), from);
        due("6: planTo, " + what, x.planTo(request), to);
    }

    /** Recordings 0 and 1 hold twelve segments each, and both are FINISHED at 48. */
    static TwinTuners fullDisk() {
        TwinTuners x = new TwinTuners();
        x.request(0, 0, 48, 5, 0);
        x.request(1, 0, 48, 5, 0);
        x.ticks(48);
        due("19: full", x.free(), 0);
        return x;
    }

    static int countRequests(TwinTuners x) {
        for (int n = 0; n < 1000; n++) {
            try {
                x.state(n);
            } catch (IndexOutOfBoundsException e) {
                return n;
            }
        }
        return 1000;
    }

    /** All that can be asked without changing anything; beyond 512 calls, too: the class has no such limit. */
    static String tell(TwinTuners x) {
        StringBuilder text = new StringBuilder();
        text.append("now ").append(x.now()).append(" free ").append(x.free()).append(" back");
        for (int k = 0; k <= 31; k++) {
            text.append(' ').append(x.back(k));
        }
        int requests = countRequests(x);
        for (int n = 0; n < requests; n++) {
            text.append('\n').append(tellOne(x, n));
        }
        return text.toString();
    }

    static String tellOne(TwinTuners x, int n) {
        StringBuilder text = new StringBuilder();
        text.append(n).append(": state ").append(x.state(n));
        text.append(" plan ").append(x.planFrom(n)).append(' ').append(x.planTo(n));
        text.append(" recorded ").append(x.recorded(n)).append(" short ").append(x.shortBy(n)).append(" words");
        for (int k = -1; k <= 80; k++) {
            text.append(' ').append(x.word(n, k));
        }
        text.append(" bookmarks");
        for (int i = -1; i <= 6; i++) {
            text.append(' ').append(x.bookmarkAt(n, i));
        }
        return text.toString();
    }

    static void end() {
        System.out.println(wrong == 0 ? "all answers are as due" : wrong + " answers are not as due");
        if (wrong != 0) {
            System.exit(1);
        }
    }
}
