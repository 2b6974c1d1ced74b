/** A recorder with two tuners; ../shared/DOC.md has its promises, and the words used here. */
public final class TwinTuners {
    public static final int WAITING = 0;
    public static final int RUNNING = 1;
    public static final int FINISHED = 2;
    public static final int MISSED = 3;
    public static final int CANCELLED = 4;
    public static final int ERASED = 5;
    public static final int NONE = -1;

    private static final int CHANNELS = 8;
    private static final int TUNERS = 2;
    private static final int MOST_REQUESTS = 40;
    private static final int MOST_OPEN = 12;
    private static final int FARTHEST_AHEAD = 1000;
    private static final int MOST_LENGTH = 60;
    private static final int MOST_PRIORITY = 9;
    private static final int MOST_PADS = 99;
    private static final int MOST_TICKS = 100;
    private static final int SEGMENTS = 24;
    private static final int SEGMENT_SECONDS = 4;
    private static final int MOST_BACK = 30;
    private static final int MOST_BOOKMARKS = 6;
    private static final int LAST_BOOKMARK = 99;
    private static final long WORD_MASK = 0xFFFFFFFFL;

    private final Request[] requests = new Request[MOST_REQUESTS];
    private final int[] onAir = new int[CHANNELS];
    private final Plan plan = new Plan();
    private final Disk disk = new Disk();
    private final Rewind rewind = new Rewind();
    private int count = 0;
    private int second = 0;
    private int watched = NONE;

    public TwinTuners() {
    }

    public int request(int channel, int start, int length, int priority, int pads)
            throws IllegalArgumentException, IllegalStateException {
        if (!isChannel(channel) || !isAhead(start) || !isWithin(length, 1, MOST_LENGTH)
                || !isWithin(priority, 1, MOST_PRIORITY) || !isWithin(pads, 0, MOST_PADS)) {
            throw new IllegalArgumentException("no such request can be made");
        }
        if (count >= MOST_REQUESTS || openRequests() >= MOST_OPEN) {
            throw new IllegalStateException("too many requests");
        }
        int number = count;
        requests[number] = new Request(number, channel, start, length, priority, pads);
        count++;
        return number;
    }

    public void cancel(int request) throws IndexOutOfBoundsException, IllegalStateException {
        Request r = numbered(request);
        if (!r.isOpen()) {
            throw new IllegalStateException("neither waiting nor running");
        }
        if (r.phase == RUNNING) {
            r.finishAt(second);
        } else {
            r.phase = CANCELLED;
        }
    }

    public int state(int request) throws IndexOutOfBoundsException {
        return numbered(request).phase;
    }

    public int planFrom(int request) throws IndexOutOfBoundsException {
        Request r = numbered(request);
        if (r.phase == WAITING) {
            plan.make(requests, count, second);
            return r.isPlanned() ? r.takenFrom : NONE;
        }
        return r.from;
    }

    public int planTo(int request) throws IndexOutOfBoundsException {
        Request r = numbered(request);
        if (r.isOpen()) {
            plan.make(requests, count, second);
            return r.isPlanned() ? r.takenTo : NONE;
        }
        return r.end;
    }

    public void air(int channel, int word) throws IndexOutOfBoundsException {
        if (!isChannel(channel)) {
            throw new IndexOutOfBoundsException("no such channel");
        }
        onAir[channel] = word;
    }

    public int tick() {
        int tuned = tune();
        passSecond(tuned);
        return tuned;
    }

    public int ticks(int many) throws IllegalArgumentException {
        if (!isWithin(many, 1, MOST_TICKS)) {
            throw new IllegalArgumentException("not 1 .. 100 ticks");
        }
        int sum = 0;
        for (int i = 0; i < many; i++) {
            sum += passSecond(tune());
        }
        return sum;
    }

    public int now() {
        return second;
    }

    public int watch(int channel) throws IndexOutOfBoundsException {
        if (channel != NONE && !isChannel(channel)) {
            throw new IndexOutOfBoundsException("no such channel");
        }
        int before = watched;
        watched = channel;
        rewind.forget();
        return before;
    }

    public long back(int k) {
        return rewind.secondsAgo(k);
    }

    public long word(int request, int k) throws IndexOutOfBoundsException {
        return disk.wordOf(numbered(request).number, k);
    }

    public int recorded(int request) throws IndexOutOfBoundsException {
        return disk.secondsOf(numbered(request).number);
    }

    public int shortBy(int request) throws IndexOutOfBoundsException {
        return numbered(request).secondsShort;
    }

    public void protect(int request, boolean on) throws IndexOutOfBoundsException, IllegalStateException {
        recordingNumbered(request).isProtected = on;
    }

    public void seen(int request, boolean on) throws IndexOutOfBoundsException, IllegalStateException {
        recordingNumbered(request).isSeen = on;
    }

    public int erase(int request) throws IndexOutOfBoundsException, IllegalStateException {
        Request r = numbered(request);
        if (r.phase != FINISHED) {
            throw new IllegalStateException("not finished");
        }
        return wipe(r);
    }

    public int free() {
        return disk.freeSegments();
    }

    public int bookmark(int request, int k)
            throws IndexOutOfBoundsException, IllegalArgumentException, IllegalStateException {
        Request r = numbered(request);
        if (!isWithin(k, 0, LAST_BOOKMARK)) {
            throw new IllegalArgumentException("not second 0 .. 99");
        }
        if (!r.isRecording() || r.bookmarks >= MOST_BOOKMARKS) {
            throw new IllegalStateException("no recording, or it has six bookmarks");
        }
        r.addBookmark(k);
        return r.bookmarks;
    }

    public int bookmarkAt(int request, int i) throws IndexOutOfBoundsException {
        Request r = numbered(request);
        return i >= 0 && i < r.bookmarks ? r.bookmarkSeconds[i] : NONE;
    }

    public int cut(int t) throws IllegalArgumentException {
        if (!isAhead(t)) {
            throw new IllegalArgumentException("the power can't come back then");
        }
        int lost = 0;
        for (int i = 0; i < count; i++) {
            Request r = requests[i];
            if (r.phase == RUNNING) {
                lost += disk.loseSegment(r.number, (second - r.from) / SEGMENT_SECONDS);
                if (r.coreEnd <= t) {
                    r.finishAt(Math.max(r.coreEnd, second));
                }
            } else if (r.phase == WAITING && r.start < t) {
                r.phase = MISSED;
            }
        }
        rewind.forget();
        second = t;
        return lost;
    }

    private static boolean isWithin(int value, int least, int most) {
        return value >= least && value <= most;
    }

    private static boolean isChannel(int channel) {
        return isWithin(channel, 0, CHANNELS - 1);
    }

    private boolean isAhead(int when) {
        return isWithin(when, second, second + FARTHEST_AHEAD);
    }

    private Request numbered(int request) throws IndexOutOfBoundsException {
        if (request < 0 || request >= count) {
            throw new IndexOutOfBoundsException("no such request");
        }
        return requests[request];
    }

    private Request recordingNumbered(int request) throws IndexOutOfBoundsException, IllegalStateException {
        Request r = numbered(request);
        if (!r.isRecording()) {
            throw new IllegalStateException("neither running nor finished");
        }
        return r;
    }

    private int openRequests() {
        int open = 0;
        for (int i = 0; i < count; i++) {
            if (requests[i].isOpen()) {
                open++;
            }
        }
        return open;
    }

    /** Brings the requests to where the plan has them at NOW, and answers the channels tuned by that. */
    private int tune() {
        plan.make(requests, count, second);
        int tuned = 0;
        for (int i = 0; i < count; i++) {
            Request r = requests[i];
            r.follow(second);
            if (r.phase == RUNNING) {
                tuned |= 1 << r.channel;
            }
        }
        if (watched != NONE && Integer.bitCount(tuned) < TUNERS) {
            tuned |= 1 << watched;
        }
        return tuned;
    }

    /** Lets the second NOW pass, and answers how many seconds were recorded in it. */
    private int passSecond(int tuned) {
        int sum = 0;
        for (int i = 0; i < count; i++) {
            if (requests[i].phase == RUNNING && recordSecond(requests[i])) {
                sum++;
            }
        }
        if (watched != NONE) {
            keepWatched((tuned >> watched & 1) != 0);
        }
        second++;
        for (int i = 0; i < count; i++) {
            if (requests[i].phase == RUNNING && requests[i].end == second) {
                requests[i].phase = FINISHED;
            }
        }
        return sum;
    }

    private void keepWatched(boolean served) {
        if (served) {
            rewind.keep(onAir[watched]);
        } else {
            rewind.forget();
        }
    }

    private boolean recordSecond(Request r) {
        int k = second - r.from;
        int slot = slotFor(r.number, k / SEGMENT_SECONDS);
        if (slot == NONE) {
            r.secondsShort++;
            return false;
        }
        disk.write(slot, k % SEGMENT_SECONDS, onAir[r.channel]);
        return true;
    }

    private int slotFor(int number, int segment) {
        int slot = disk.slotOf(number, segment);
        if (slot != NONE) {
            return slot;
        }
        if (disk.freeSegments() == 0) {
            makeRoom();
        }
        return disk.take(number, segment);
    }

    private void makeRoom() {
        Request first = null;
        for (int i = 0; i < count; i++) {
            Request r = requests[i];
            if (mayGo(r) && (first == null || r.goesBefore(first))) {
                first = r;
            }
        }
        if (first != null) {
            wipe(first);
        }
    }

    private boolean mayGo(Request r) {
        return r.phase == FINISHED && !r.isProtected && disk.segmentsOf(r.number) > 0;
    }

    private int wipe(Request r) {
        r.phase = ERASED;
        r.isProtected = false;
        r.isSeen = false;
        r.bookmarks = 0;
        return disk.release(r.number);
    }

    /** A request, what the latest plan gave it, and the marks of its recording. */
    private static final class Request {
        final int number;
        final int channel;
        final int start;
        final int coreEnd;
        final int priority;
        final int padBefore;
        final int padAfter;
        final int[] bookmarkSeconds = new int[MOST_BOOKMARKS];
        int phase = WAITING;
        int from = NONE;
        int end = NONE;
        // A core and its paddings lie side by side, so that all that a request takes is one stretch.
        int takenFrom = 0;
        int takenTo = 0;
        int secondsShort = 0;
        int bookmarks = 0;
        boolean isProtected = false;
        boolean isSeen = false;

        Request(int number, int channel, int start, int length, int priority, int pads) {
            this.number = number;
            this.channel = channel;
            this.start = start;
            this.coreEnd = start + length;
            this.priority = priority;
            this.padBefore = pads / 10;
            this.padAfter = pads % 10;
        }

        boolean isOpen() {
            return phase == WAITING || phase == RUNNING;
        }

        boolean isRecording() {
            return phase == RUNNING || phase == FINISHED;
        }

        boolean isPlanned() {
            return takenFrom < takenTo;
        }

        void takeStretch(int first, int behind) {
            takenFrom = first;
            takenTo = behind;
        }

        /** Does what the plan at NOW, just made, has for this one. */
        void follow(int now) {
            if (phase == RUNNING) {
                end = takenTo;
            } else if (phase == WAITING && isPlanned() && takenFrom == now) {
                phase = RUNNING;
                from = now;
                end = takenTo;
            } else if (phase == WAITING && !isPlanned() && start == now) {
                phase = MISSED;
            }
        }

        void finishAt(int when) {
            phase = FINISHED;
            end = when;
        }

        /** Whether this one is erased sooner for room than one with a lower number. */
        boolean goesBefore(Request lower) {
            if (isSeen != lower.isSeen) {
                return isSeen;
            }
            if (!isSeen && priority != lower.priority) {
                return priority < lower.priority;
            }
            return end < lower.end;
        }

        void addBookmark(int k) {
            int at = 0;
            while (at < bookmarks && bookmarkSeconds[at] < k) {
                at++;
            }
            boolean isThere = at < bookmarks && bookmarkSeconds[at] == k;
            if (isThere || bookmarks >= MOST_BOOKMARKS) {
                return;
            }
            for (int i = bookmarks; i > at; i--) {
                bookmarkSeconds[i] = bookmarkSeconds[i - 1];
            }
            bookmarkSeconds[at] = k;
            bookmarks++;
        }
    }

    /** Makes the plan at NOW; what each open request takes stands in the request. */
    private static final class Plan {
        private final Request[] order = new Request[MOST_OPEN];
        private int size = 0;

        void make(Request[] requests, int count, int now) {
            size = 0;
            for (int i = 0; i < count; i++) {
                if (requests[i].isOpen()) {
                    enter(requests[i]);
                }
            }
            takeRunning(now);
            takeCores();
            padRunning(now);
            padWaiting(now);
        }

        private void enter(Request r) {
            if (size >= MOST_OPEN) {
                return;
            }
            r.takeStretch(0, 0);
            int at = size;
            while (at > 0 && order[at - 1].priority < r.priority) {
                order[at] = order[at - 1];
                at--;
            }
            order[at] = r;
            size++;
        }

        private void takeRunning(int now) {
            for (int i = 0; i < size; i++) {
                Request r = order[i];
                if (r.phase == RUNNING) {
                    r.takeStretch(now, r.coreEnd > now ? r.coreEnd : r.end);
                }
            }
        }

        private void takeCores() {
            for (int i = 0; i < size; i++) {
                Request r = order[i];
                if (r.phase == WAITING && fits(r.channel, r.start, r.coreEnd)) {
                    r.takeStretch(r.start, r.coreEnd);
                }
            }
        }

        private void padRunning(int now) {
            for (int i = 0; i < size; i++) {
                if (order[i].phase == RUNNING && order[i].coreEnd > now) {
                    takeAfter(order[i]);
                }
            }
        }

        private void padWaiting(int now) {
            for (int i = 0; i < size; i++) {
                Request r = order[i];
                if (r.phase == WAITING && r.isPlanned()) {
                    takeAfter(r);
                    takeBefore(r, now);
                }
            }
        }

        private void takeAfter(Request r) {
            int behind = r.coreEnd + r.padAfter;
            if (fits(r.channel, r.coreEnd, behind)) {
                r.takenTo = behind;
            }
        }

        private void takeBefore(Request r, int now) {
            int first = r.start - r.padBefore;
            if (first >= now && fits(r.channel, first, r.start)) {
                r.takenFrom = first;
            }
        }

        // Channels are added only where a stretch begins, so no second between those needs a look.
        private boolean fits(int channel, int first, int behind) {
            if (first < behind && isCrowded(channel, first)) {
                return false;
            }
            for (int i = 0; i < size; i++) {
                int begin = order[i].takenFrom;
                if (begin > first && begin < behind && isCrowded(channel, begin)) {
                    return false;
                }
            }
            return true;
        }

        private boolean isCrowded(int channel, int when) {
            int channels = 1 << channel;
            for (int i = 0; i < size; i++) {
                Request r = order[i];
                if (r.takenFrom <= when && when < r.takenTo) {
                    channels |= 1 << r.channel;
                }
            }
            return Integer.bitCount(channels) > TUNERS;
        }
    }

    /** The disk: each slot holds one segment of one recording, or is free. */
    private static final class Disk {
        private final int[] owner = new int[SEGMENTS];
        private final int[] segmentIn = new int[SEGMENTS];
        // A bit for each second of the segment that is recorded: not all need be, after a lack of room.
        private final int[] filled = new int[SEGMENTS];
        private final int[] words = new int[SEGMENTS * SEGMENT_SECONDS];

        Disk() {
            for (int slot = 0; slot < SEGMENTS; slot++) {
                owner[slot] = NONE;
            }
        }

        int freeSegments() {
            return segmentsOf(NONE);
        }

        int segmentsOf(int number) {
            int sum = 0;
            for (int slot = 0; slot < SEGMENTS; slot++) {
                if (owner[slot] == number) {
                    sum++;
                }
            }
            return sum;
        }

        int secondsOf(int number) {
            int sum = 0;
            for (int slot = 0; slot < SEGMENTS; slot++) {
                if (owner[slot] == number) {
                    sum += Integer.bitCount(filled[slot]);
                }
            }
            return sum;
        }

        int slotOf(int number, int segment) {
            for (int slot = 0; slot < SEGMENTS; slot++) {
                if (owner[slot] == number && segmentIn[slot] == segment) {
                    return slot;
                }
            }
            return NONE;
        }

        int take(int number, int segment) {
            for (int slot = 0; slot < SEGMENTS; slot++) {
                if (owner[slot] == NONE) {
                    owner[slot] = number;
                    segmentIn[slot] = segment;
                    filled[slot] = 0;
                    return slot;
                }
            }
            return NONE;
        }

        void write(int slot, int place, int word) {
            if (isWithin(slot, 0, SEGMENTS - 1) && isWithin(place, 0, SEGMENT_SECONDS - 1)) {
                words[slot * SEGMENT_SECONDS + place] = word;
                filled[slot] |= 1 << place;
            }
        }

        long wordOf(int number, int k) {
            if (k < 0) {
                return NONE;
            }
            int slot = slotOf(number, k / SEGMENT_SECONDS);
            int place = k % SEGMENT_SECONDS;
            if (slot == NONE || (filled[slot] >> place & 1) == 0) {
                return NONE;
            }
            return words[slot * SEGMENT_SECONDS + place] & WORD_MASK;
        }

        int release(int number) {
            int sum = 0;
            for (int slot = 0; slot < SEGMENTS; slot++) {
                if (owner[slot] == number) {
                    owner[slot] = NONE;
                    sum++;
                }
            }
            return sum;
        }

        /** Frees a segment, if it is on the disk, and answers how many seconds were recorded in it. */
        int loseSegment(int number, int segment) {
            int slot = slotOf(number, segment);
            if (slot == NONE) {
                return 0;
            }
            owner[slot] = NONE;
            return Integer.bitCount(filled[slot]);
        }
    }

    /** The latest words of the watched channel, in a ring. */
    private static final class Rewind {
        private final int[] ring = new int[MOST_BACK];
        private int next = 0;
        private int size = 0;

        void forget() {
            size = 0;
        }

        void keep(int word) {
            ring[next] = word;
            next = (next + 1) % MOST_BACK;
            size = Math.min(size + 1, MOST_BACK);
        }

        long secondsAgo(int k) {
            if (k < 1 || k > size) {
                return NONE;
            }
            return ring[(next - k + MOST_BACK) % MOST_BACK] & WORD_MASK;
        }
    }
}
