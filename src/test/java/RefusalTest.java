import java.util.Map;
import java.util.Random;
import java.util.TreeMap;
import java.util.function.Consumer;

/**
 * Every call that the document refuses, at every point of long runs: it throws the first exception that is listed, and
 * changes nothing. Marks, the watched channel and the words on the air can't be asked for, so a twin, who is spared the
 * refused calls, goes the same way, and must tell the same to the end.
 */
public final class RefusalTest {
    private interface Step {
        long on(TwinTuners o);
    }

    private static final int RUNS = 12;
    private static final int STEPS = 150;
    private static final int LEAST = Integer.MIN_VALUE;
    private static final int MOST = Integer.MAX_VALUE;
    private static final Class<IndexOutOfBoundsException> INDEX = IndexOutOfBoundsException.class;
    private static final Class<IllegalArgumentException> ARGUMENT = IllegalArgumentException.class;
    private static final Class<IllegalStateException> STATE = IllegalStateException.class;
    private static final String[] REASONS = {
        "request: argument", "request: 12 open", "request: 40", "request: argument and 12 open", "request: argument and 40",
        "cancel: index", "cancel: state 2", "cancel: state 3", "cancel: state 4", "cancel: state 5",
        "protect: index", "protect: state 0", "protect: state 3", "protect: state 4", "protect: state 5",
        "seen: index", "seen: state 0", "seen: state 3", "seen: state 4", "seen: state 5",
        "erase: index", "erase: state 0", "erase: state 1", "erase: state 3", "erase: state 4", "erase: state 5",
        "bookmark: index", "bookmark: argument", "bookmark: argument and six", "bookmark: six",
        "bookmark: state 0", "bookmark: state 3", "bookmark: state 4", "bookmark: state 5",
        "state: index", "planFrom: index", "planTo: index", "word: index", "recorded: index", "shortBy: index",
        "bookmarkAt: index", "air: index", "watch: index", "ticks: argument", "cut: argument",
    };

    private final TwinTuners x = new TwinTuners();
    private final TwinTuners twin = new TwinTuners();
    private final Map<String, Integer> reasons;
    private final Random random;

    private RefusalTest(int seed, Map<String, Integer> reasons) {
        this.random = new Random(seed);
        this.reasons = reasons;
    }

    public static void main(String[] args) {
        Map<String, Integer> reasons = new TreeMap<>();
        for (int seed = 0; seed < RUNS && Check.isClean(); seed++) {
            new RefusalTest(seed, reasons).run();
        }
        for (String reason : REASONS) {
            if (reasons.getOrDefault(reason, 0) == 0) {
                Check.report("the runs never came to: " + reason);
            }
        }
        Check.end();
    }

    private void run() {
        for (int step = 0; step < STEPS && Check.isClean(); step++) {
            Step call = nextCall();
            Check.due("what x answers at step " + step, call.on(x), call.on(twin));
            Check.same("what x tells at step " + step, Check.tell(x), Check.tell(twin));
            refuseAll();
            Check.same("what x tells after refusals at step " + step, Check.tell(x), Check.tell(twin));
        }
    }

    /** Something that the document does not refuse. */
    private Step nextCall() {
        int kind = random.nextInt(14);
        int count = Check.countRequests(x);
        int n = count == 0 ? 0 : Math.max(0, count - 1 - random.nextInt(14));
        int state = count == 0 ? TwinTuners.NONE : x.state(n);
        boolean isRecording = state == TwinTuners.RUNNING || state == TwinTuners.FINISHED;
        int k = random.nextInt(100);
        boolean on = random.nextInt(3) > 0;
        if (kind <= 4 && openRequests() < 12 && count < 40) {
            return aRequest();
        }
        if (kind == 5 && (state == TwinTuners.WAITING || state == TwinTuners.RUNNING && k < 20)) {
            return silent(o -> o.cancel(n));
        }
        if (kind == 6 && isRecording) {
            return silent(o -> o.protect(n, !on));
        }
        if (kind == 7 && isRecording) {
            return silent(o -> o.seen(n, on));
        }
        if (kind == 8 && isRecording && x.bookmarkAt(n, 5) == TwinTuners.NONE) {
            return this::bookmarkSome;
        }
        if (kind == 9 && state == TwinTuners.FINISHED && k < 30) {
            return o -> o.erase(n);
        }
        if (kind == 10) {
            return o -> o.watch(k % 9 - 1);
        }
        if (kind == 11) {
            int word = random.nextInt();
            return silent(o -> o.air(k % 8, word));
        }
        if (kind == 12 && k < 20) {
            int t = x.now() + random.nextInt(6);
            return o -> o.cut(t);
        }
        int many = 1 + random.nextInt(12);
        return o -> o.ticks(many);
    }

    private static Step silent(Consumer<TwinTuners> call) {
        return o -> {
            call.accept(o);
            return 0;
        };
    }

    private Step aRequest() {
        int channel = random.nextInt(4);
        int start = x.now() + random.nextInt(12);
        int length = 1 + random.nextInt(25);
        int priority = 1 + random.nextInt(9);
        int pads = random.nextInt(100);
        return o -> o.request(channel, start, length, priority, pads);
    }

    /** Six for the newest recording, so that a seventh can be refused. */
    private long bookmarkSome(TwinTuners o) {
        for (int n = Check.countRequests(o) - 1; n >= 0; n--) {
            int state = o.state(n);
            if (state == TwinTuners.RUNNING || state == TwinTuners.FINISHED) {
                for (int k = 0; k < 6 && o.bookmarkAt(n, 5) == TwinTuners.NONE; k++) {
                    o.bookmark(n, (7 * k + n) % 100);
                }
                return n;
            }
        }
        return TwinTuners.NONE;
    }

    private int openRequests() {
        int open = 0;
        for (int n = 0; n < Check.countRequests(x); n++) {
            open += x.state(n) <= TwinTuners.RUNNING ? 1 : 0;
        }
        return open;
    }

    private void refused(String reason, Class<? extends RuntimeException> due, Check.Call call) {
        reasons.merge(reason, 1, Integer::sum);
        String got = "nothing";
        try {
            call.run();
        } catch (RuntimeException e) {
            got = e.getClass().getName();
        }
        Check.same("what is thrown for " + reason, got, due.getName());
    }

    private void refuseAll() {
        refuseRequests();
        int count = Check.countRequests(x);
        for (int n : new int[] {-1, count, count + 1, 40, LEAST, MOST}) {
            if (n < 0 || n >= count) {
                refuseIndex(n);
            }
        }
        for (int n = 0; n < count; n++) {
            refuseInState(n, x.state(n));
        }
        for (int c : new int[] {-2, -1, 8, LEAST, MOST}) {
            refused("air: index", INDEX, () -> x.air(c, 12345));
            if (c != TwinTuners.NONE) {
                refused("watch: index", INDEX, () -> x.watch(c));
            }
        }
        for (int many : new int[] {0, -1, 101, LEAST, MOST}) {
            refused("ticks: argument", ARGUMENT, () -> x.ticks(many));
        }
        for (int t : new int[] {x.now() - 1, x.now() + 1001, -1, LEAST, MOST}) {
            refused("cut: argument", ARGUMENT, () -> x.cut(t));
        }
    }

    private void refuseRequests() {
        int now = x.now();
        boolean isFull = openRequests() >= 12;
        boolean isAll = Check.countRequests(x) >= 40;
        String beside = isAll ? " and 40" : isFull ? " and 12 open" : "";
        int[][] bad = {
            {-1, now, 1, 1, 0}, {8, now, 1, 1, 0}, {0, now - 1, 1, 1, 0}, {0, now + 1001, 1, 1, 0},
            {0, now, 0, 1, 0}, {0, now, 61, 1, 0}, {0, now, 1, 0, 0}, {0, now, 1, 10, 0},
            {0, now, 1, 1, -1}, {0, now, 1, 1, 100}, {LEAST, LEAST, LEAST, LEAST, LEAST}, {MOST, MOST, MOST, MOST, MOST},
        };
        for (int[] b : bad) {
            refused("request: argument" + beside, ARGUMENT, () -> x.request(b[0], b[1], b[2], b[3], b[4]));
        }
        if (isFull || isAll) {
            refused(isAll ? "request: 40" : "request: 12 open", STATE, () -> x.request(0, now, 1, 1, 0));
            refused(isAll ? "request: 40" : "request: 12 open", STATE, () -> x.request(7, now + 1000, 60, 9, 99));
        }
    }

    private void refuseIndex(int n) {
        refused("cancel: index", INDEX, () -> x.cancel(n));
        refused("state: index", INDEX, () -> x.state(n));
        refused("planFrom: index", INDEX, () -> x.planFrom(n));
        refused("planTo: index", INDEX, () -> x.planTo(n));
        refused("word: index", INDEX, () -> x.word(n, 0));
        refused("recorded: index", INDEX, () -> x.recorded(n));
        refused("shortBy: index", INDEX, () -> x.shortBy(n));
        refused("protect: index", INDEX, () -> x.protect(n, true));
        refused("seen: index", INDEX, () -> x.seen(n, true));
        refused("erase: index", INDEX, () -> x.erase(n));
        refused("bookmark: index", INDEX, () -> x.bookmark(n, 0));
        refused("bookmark: index", INDEX, () -> x.bookmark(n, 100));
        refused("bookmarkAt: index", INDEX, () -> x.bookmarkAt(n, 0));
    }

    private void refuseInState(int n, int state) {
        boolean isRecording = state == TwinTuners.RUNNING || state == TwinTuners.FINISHED;
        boolean hasSix = x.bookmarkAt(n, 5) != TwinTuners.NONE;
        if (state != TwinTuners.WAITING && state != TwinTuners.RUNNING) {
            refused("cancel: state " + state, STATE, () -> x.cancel(n));
        }
        if (state != TwinTuners.FINISHED) {
            refused("erase: state " + state, STATE, () -> x.erase(n));
        }
        for (boolean on : new boolean[] {true, false}) {
            if (!isRecording) {
                refused("protect: state " + state, STATE, () -> x.protect(n, on));
                refused("seen: state " + state, STATE, () -> x.seen(n, on));
            }
        }
        for (int k : new int[] {-1, 100, LEAST, MOST}) {
            refused(hasSix ? "bookmark: argument and six" : "bookmark: argument", ARGUMENT, () -> x.bookmark(n, k));
        }
        for (int k : new int[] {0, 99, x.bookmarkAt(n, 0), x.bookmarkAt(n, 5)}) {
            if (k >= 0 && (!isRecording || hasSix)) {
                refused(isRecording ? "bookmark: six" : "bookmark: state " + state, STATE, () -> x.bookmark(n, k));
            }
        }
    }
}
