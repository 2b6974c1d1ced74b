import java.util.ArrayList;
import java.util.HashMap;
import java.util.List;
import java.util.Map;
import java.util.TreeMap;
import java.util.TreeSet;

/** The document's words, second by second and with no thought of speed, for ModelTest to compare with. */
final class PlainModel {
    private static final class Asked {
        int channel;
        int start;
        int coreEnd;
        int priority;
        int before;
        int after;
        int state = TwinTuners.WAITING;
        int from = -1;
        int end = -1;
        int missing;
        boolean keep;
        boolean viewed;
        TreeSet<Integer> wants = new TreeSet<>();
        TreeMap<Integer, Integer> seconds = new TreeMap<>();
        TreeSet<Integer> segments = new TreeSet<>();
        TreeSet<Integer> bookmarks = new TreeSet<>();
    }

    private final List<Asked> all = new ArrayList<>();
    private final int[] air = new int[8];
    private final List<Integer> history = new ArrayList<>();
    private int now;
    private int watched = -1;
    private Map<Integer, TreeSet<Integer>> taken = new HashMap<>();
    private int recordedLately;

    int request(int channel, int start, int length, int priority, int pads) {
        if (channel < 0 || channel > 7 || start < now || start > now + 1000L || length < 1 || length > 60
                || priority < 1 || priority > 9 || pads < 0 || pads > 99) {
            throw new IllegalArgumentException();
        }
        if (inState(0).size() + inState(1).size() >= 12 || all.size() == 40) {
            throw new IllegalStateException();
        }
        Asked a = new Asked();
        a.channel = channel;
        a.start = start;
        a.coreEnd = start + length;
        a.priority = priority;
        a.before = pads / 10;
        a.after = pads % 10;
        all.add(a);
        return all.size() - 1;
    }

    void cancel(int request) {
        Asked a = get(request);
        if (a.state == 0) {
            a.state = 4;
        } else if (a.state == 1) {
            a.state = 2;
            a.end = now;
        } else {
            throw new IllegalStateException();
        }
    }

    int state(int request) {
        return get(request).state;
    }

    int planFrom(int request) {
        Asked a = get(request);
        if (a.state != 0) {
            return a.from;
        }
        plan();
        return a.wants.isEmpty() ? -1 : a.wants.first();
    }

    int planTo(int request) {
        Asked a = get(request);
        if (a.state > 1) {
            return a.end;
        }
        plan();
        return a.wants.isEmpty() ? -1 : a.wants.last() + 1;
    }

    void air(int channel, int word) {
        if (channel < 0 || channel > 7) {
            throw new IndexOutOfBoundsException();
        }
        air[channel] = word;
    }

    int tick() {
        plan();
        TreeSet<Integer> tuned = new TreeSet<>();
        for (Asked a : all) {
            if (a.state == 1) {
                a.end = a.wants.last() + 1;
            } else if (a.state == 0 && !a.wants.isEmpty() && a.wants.first() == now) {
                a.state = 1;
                a.from = now;
                a.end = a.wants.last() + 1;
            } else if (a.state == 0 && a.wants.isEmpty() && a.start == now) {
                a.state = 3;
            }
            if (a.state == 1) {
                tuned.add(a.channel);
            }
        }
        boolean served = watched >= 0 && (tuned.contains(watched) || tuned.size() < 2);
        if (served) {
            tuned.add(watched);
        }
        for (Asked a : inState(1)) {
            record(a);
        }
        if (served) {
            history.add(air[watched]);
        } else {
            history.clear();
        }
        now++;
        for (Asked a : inState(1)) {
            if (a.end == now) {
                a.state = 2;
            }
        }
        int sum = 0;
        for (int c : tuned) {
            sum += 1 << c;
        }
        return sum;
    }

    int ticks(int many) {
        if (many < 1 || many > 100) {
            throw new IllegalArgumentException();
        }
        recordedLately = 0;
        for (int i = 0; i < many; i++) {
            tick();
        }
        return recordedLately;
    }

    int now() {
        return now;
    }

    int watch(int channel) {
        if (channel < -1 || channel > 7) {
            throw new IndexOutOfBoundsException();
        }
        int was = watched;
        watched = channel;
        history.clear();
        return was;
    }

    long back(int k) {
        return k < 1 || k > 30 || k > history.size() ? -1 : Integer.toUnsignedLong(history.get(history.size() - k));
    }

    long word(int request, int k) {
        Integer word = get(request).seconds.get(k);
        return word == null ? -1 : Integer.toUnsignedLong(word);
    }

    int recorded(int request) {
        return get(request).seconds.size();
    }

    int shortBy(int request) {
        return get(request).missing;
    }

    void protect(int request, boolean on) {
        recording(request).keep = on;
    }

    void seen(int request, boolean on) {
        recording(request).viewed = on;
    }

    int erase(int request) {
        Asked a = get(request);
        if (a.state != 2) {
            throw new IllegalStateException();
        }
        int was = free();
        wipe(a);
        return free() - was;
    }

    int free() {
        int left = 24;
        for (Asked a : all) {
            left -= a.segments.size();
        }
        return left;
    }

    int bookmark(int request, int k) {
        get(request);
        if (k < 0 || k > 99) {
            throw new IllegalArgumentException();
        }
        Asked a = recording(request);
        if (a.bookmarks.size() == 6) {
            throw new IllegalStateException();
        }
        a.bookmarks.add(k);
        return a.bookmarks.size();
    }

    int bookmarkAt(int request, int i) {
        List<Integer> sorted = new ArrayList<>(get(request).bookmarks);
        return i < 0 || i >= sorted.size() ? -1 : sorted.get(i);
    }

    int cut(int t) {
        if (t < now || t > now + 1000L) {
            throw new IllegalArgumentException();
        }
        int lost = 0;
        for (Asked a : all) {
            if (a.state == 1) {
                lost += loseUnkept(a);
                if (a.coreEnd <= t) {
                    a.state = 2;
                    a.end = a.coreEnd < now ? now : a.coreEnd;
                }
            } else if (a.state == 0 && a.start < t) {
                a.state = 3;
            }
        }
        history.clear();
        now = t;
        return lost;
    }

    private int loseUnkept(Asked a) {
        int lost = 0;
        for (int segment : new ArrayList<>(a.segments)) {
            int lastSecond = a.from + 4 * segment + 3;
            if (lastSecond >= now) {
                a.segments.remove(segment);
                for (int k = 4 * segment; k < 4 * segment + 4; k++) {
                    lost += a.seconds.remove(k) == null ? 0 : 1;
                }
            }
        }
        return lost;
    }

    private Asked get(int request) {
        if (request < 0 || request >= all.size()) {
            throw new IndexOutOfBoundsException();
        }
        return all.get(request);
    }

    private Asked recording(int request) {
        Asked a = get(request);
        if (a.state != 1 && a.state != 2) {
            throw new IllegalStateException();
        }
        return a;
    }

    private List<Asked> inState(int state) {
        List<Asked> those = new ArrayList<>();
        for (Asked a : all) {
            if (a.state == state) {
                those.add(a);
            }
        }
        return those;
    }

    private List<Asked> byPriority(int state) {
        List<Asked> those = inState(state);
        those.sort((a, b) -> b.priority - a.priority);
        return those;
    }

    private void plan() {
        taken = new HashMap<>();
        for (Asked a : all) {
            a.wants.clear();
        }
        for (Asked a : inState(1)) {
            take(a, now, a.coreEnd > now ? a.coreEnd : a.end);
        }
        for (Asked a : byPriority(0)) {
            takeIfFits(a, a.start, a.coreEnd);
        }
        for (Asked a : byPriority(1)) {
            if (a.coreEnd > now) {
                takeIfFits(a, a.coreEnd, a.coreEnd + a.after);
            }
        }
        for (Asked a : byPriority(0)) {
            if (!a.wants.isEmpty()) {
                takeIfFits(a, a.coreEnd, a.coreEnd + a.after);
                if (a.start - a.before >= now) {
                    takeIfFits(a, a.start - a.before, a.start);
                }
            }
        }
    }

    private void takeIfFits(Asked a, int from, int to) {
        for (int s = from; s < to; s++) {
            TreeSet<Integer> channels = new TreeSet<>(taken.getOrDefault(s, new TreeSet<>()));
            channels.add(a.channel);
            if (channels.size() > 2) {
                return;
            }
        }
        take(a, from, to);
    }

    private void take(Asked a, int from, int to) {
        for (int s = from; s < to; s++) {
            taken.computeIfAbsent(s, any -> new TreeSet<>()).add(a.channel);
            a.wants.add(s);
        }
    }

    private void record(Asked a) {
        int k = now - a.from;
        if (!a.segments.contains(k / 4)) {
            if (free() == 0) {
                makeRoom();
            }
            if (free() == 0) {
                a.missing++;
                return;
            }
            a.segments.add(k / 4);
        }
        a.seconds.put(k, air[a.channel]);
        recordedLately++;
    }

    private void makeRoom() {
        List<Asked> may = new ArrayList<>();
        List<Asked> viewed = new ArrayList<>();
        for (Asked a : inState(2)) {
            if (!a.segments.isEmpty() && !a.keep) {
                may.add(a);
                if (a.viewed) {
                    viewed.add(a);
                }
            }
        }
        viewed.sort((a, b) -> a.end - b.end);
        may.sort((a, b) -> a.priority != b.priority ? a.priority - b.priority : a.end - b.end);
        if (!viewed.isEmpty()) {
            wipe(viewed.get(0));
        } else if (!may.isEmpty()) {
            wipe(may.get(0));
        }
    }

    private static void wipe(Asked a) {
        a.state = 5;
        a.segments.clear();
        a.seconds.clear();
        a.bookmarks.clear();
        a.keep = false;
        a.viewed = false;
    }
}
