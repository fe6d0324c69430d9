import java.nio.charset.StandardCharsets;
import java.util.ArrayList;
import java.util.HashMap;
import java.util.HashSet;
import java.util.List;
import java.util.Map;
import java.util.Set;
import java.util.TreeSet;

/** A second telling of the document, written with other means (lists, sets, fractions), to compare answers with. */
final class Model {
    static final class Human {
        final int kind, square, voice;

        Human(int kind, int square, int voice) {
            this.kind = kind;
            this.square = square;
            this.voice = voice;
        }
    }

    /** Never changed once it is kept: an image is the same object. */
    static final class State {
        int w = 6, h = 6, drown = 1, wind = 0;
        Set<Integer> hedges = new TreeSet<>(), fountains = new TreeSet<>();
        List<Human> people = new ArrayList<>();
        List<int[]> tellings = new ArrayList<>(), reports = new ArrayList<>();

        State copy() {
            State s = new State();
            s.w = w;
            s.h = h;
            s.drown = drown;
            s.wind = wind;
            s.hedges = new TreeSet<>(hedges);
            s.fountains = new TreeSet<>(fountains);
            s.people = new ArrayList<>(people);
            s.tellings = new ArrayList<>(tellings);
            s.reports = new ArrayList<>(reports);
            return s;
        }

        State withPersonAt(int p, int q) {
            State s = copy();
            s.people.set(p, new Human(people.get(p).kind, q, people.get(p).voice));
            return s;
        }

        State withKind(int p, int kind) {
            State s = copy();
            s.people.set(p, new Human(kind, people.get(p).square, people.get(p).voice));
            return s;
        }

        boolean isSquare(int q) {
            return 0 <= q && q < w * h;
        }

        boolean isPerson(int p) {
            return 0 <= p && p < people.size();
        }

        boolean isGroup(int bits) {
            return 0 <= bits && bits < Math.pow(2, people.size());
        }

        boolean isTaken(int q) {
            return people.stream().anyMatch(one -> one.square == q);
        }

        boolean isFree(int q) {
            return !hedges.contains(q) && !isTaken(q);
        }

        int yards(int p, int q) {
            return Math.abs(p % w - q % w) + Math.abs(p / w - q / w);
        }

        boolean clear(int p, int q) {
            return hedges.stream().allMatch(s -> s == p || s == q || !crosses(p, q, s));
        }

        /** The times t (0 .. 1) at which the point is strictly within x's band and y's band, as fractions. */
        private boolean crosses(int p, int q, int s) {
            long[] low = {0, 1}, high = {1, 1};
            boolean lowOpen = false, highOpen = false;
            int[] starts = {2 * (p % w) + 1, 2 * (p / w) + 1}, ends = {2 * (q % w) + 1, 2 * (q / w) + 1};
            int[] edges = {2 * (s % w), 2 * (s / w)};
            for (int axis = 0; axis < 2; axis++) {
                long d = ends[axis] - starts[axis];
                if (d == 0) {
                    if (starts[axis] <= edges[axis] || starts[axis] >= edges[axis] + 2) {
                        return false;
                    }
                    continue;
                }
                long enter = d > 0 ? edges[axis] - starts[axis] : starts[axis] - edges[axis] - 2;
                long[] in = {enter, Math.abs(d)}, out = {enter + 2, Math.abs(d)};
                if (compare(in, low) >= 0) {
                    low = in;
                    lowOpen = true;
                }
                if (compare(out, high) <= 0) {
                    high = out;
                    highOpen = true;
                }
            }
            int c = compare(low, high);
            return c < 0 || c == 0 && !lowOpen && !highOpen;
        }

        private static int compare(long[] a, long[] b) {
            return Long.compare(a[0] * b[1], b[0] * a[1]);
        }

        boolean sees(int a, int b) {
            Human one = people.get(a), other = people.get(b);
            if (one.kind == 5) {
                return true;
            }
            if (one.kind == 2 || other.kind == 5) {
                return false;
            }
            if (other.kind == 3 && one.square / w == other.square / w) {
                return false;
            }
            return clear(one.square, other.square);
        }

        boolean nearWater(int q) {
            return fountains.stream().anyMatch(f -> yards(f, q) <= drown);
        }

        boolean hears(int a, int b) {
            Human one = people.get(a), other = people.get(b);
            if (one.kind == 5) {
                return true;
            }
            if (other.kind == 5 || one.kind == 1) {
                return false;
            }
            int yards = yards(one.square, other.square);
            if (one.kind == 4 && yards > 1) {
                return false;
            }
            if (nearWater(one.square) || nearWater(other.square)) {
                return yards < 2 && other.voice > 0;
            }
            int carried = other.voice;
            if (one.square % w > other.square % w) {
                carried += wind;
            } else if (one.square % w < other.square % w) {
                carried -= wind;
            }
            return yards <= carried;
        }

        boolean breaks(int a, int b) {
            return a != b && people.get(a).kind != 5 && sees(a, b) && hears(a, b);
        }

        boolean may(int b) {
            for (int a = 0; a < people.size(); a++) {
                if (breaks(a, b)) {
                    return false;
                }
            }
            return true;
        }

        int judge(int speak) {
            for (int a = 0; a < people.size(); a++) {
                for (int b = 0; b < people.size(); b++) {
                    if ((speak & 1 << b) != 0 && breaks(a, b)) {
                        return 10 * a + b;
                    }
                }
            }
            return -1;
        }

        boolean heardByOneOf(int b, int some) {
            for (int a = 0; a < people.size(); a++) {
                if (a != b && (some & 1 << a) != 0 && hears(a, b)) {
                    return true;
                }
            }
            return false;
        }

        boolean told(int some) {
            return tellings.stream().allMatch(t -> may(t[0]) && hears(t[1], t[0]) && !heardByOneOf(t[0], some));
        }

        List<Integer> squaresFor(int p) {
            List<Integer> open = new ArrayList<>();
            for (int q = 0; q < w * h; q++) {
                if (isFree(q) || people.get(p).square == q) {
                    open.add(q);
                }
            }
            return open;
        }

        List<Integer> spots(int p) {
            List<Integer> found = new ArrayList<>();
            for (int q : squaresFor(p)) {
                State there = withPersonAt(p, q);
                boolean fits = true;
                for (int[] r : reports) {
                    if (r[0] != p) {
                        boolean noticed = r[1] < 2 ? there.sees(r[0], p) : there.hears(r[0], p);
                        fits &= noticed == (r[1] % 2 == 0);
                    }
                }
                if (fits) {
                    found.add(q);
                }
            }
            return found;
        }

        int speakers() {
            int n = 0;
            for (int b = 0; b < people.size(); b++) {
                if (may(b) && heardByOneOf(b, 31)) {
                    n++;
                }
            }
            return n;
        }

        List<Integer> besides(int q) {
            List<Integer> found = new ArrayList<>();
            for (int t = 0; t < w * h; t++) {
                if (yards(q, t) == 1) {
                    found.add(t);
                }
            }
            return found;
        }

        /** All walks of a length are followed at once; of those to one square the first by squares is kept. */
        List<Integer> walk(int p, int goal, int speak) {
            Set<Integer> lawful = new HashSet<>();
            for (int q : squaresFor(p)) {
                if (withPersonAt(p, q).judge(speak) == -1) {
                    lawful.add(q);
                }
            }
            Map<Integer, List<Integer>> ends = new HashMap<>();
            int home = people.get(p).square;
            if (lawful.contains(home)) {
                ends.put(home, List.of(home));
            }
            Set<Integer> reached = new HashSet<>(ends.keySet());
            while (!ends.isEmpty() && !ends.containsKey(goal)) {
                Map<Integer, List<Integer>> further = new HashMap<>();
                for (List<Integer> way : ends.values()) {
                    for (int t : besides(way.get(way.size() - 1))) {
                        if (lawful.contains(t) && !reached.contains(t)) {
                            List<Integer> longer = new ArrayList<>(way);
                            longer.add(t);
                            further.merge(t, longer, (x, y) -> isBefore(x, y) ? x : y);
                        }
                    }
                }
                reached.addAll(further.keySet());
                ends = further;
            }
            return ends.get(goal);
        }

        private static boolean isBefore(List<Integer> x, List<Integer> y) {
            for (int k = 0; k < x.size(); k++) {
                if (!x.get(k).equals(y.get(k))) {
                    return x.get(k) < y.get(k);
                }
            }
            return true;
        }

        int parade(int p, int what) {
            Map<Integer, Set<Integer>> noticed = new HashMap<>();
            for (int q : squaresFor(p)) {
                State there = withPersonAt(p, q);
                Set<Integer> who = new TreeSet<>();
                boolean allowed = true;
                for (int a = 0; a < people.size(); a++) {
                    if (a != p) {
                        if (what == 0 ? there.sees(a, p) : there.hears(a, p)) {
                            who.add(a);
                        }
                        allowed &= what == 0 || people.get(a).kind == 5 || !there.sees(a, p);
                    }
                }
                if (allowed) {
                    noticed.put(q, who);
                }
            }
            int home = people.get(p).square;
            Set<List<Object>> now = new HashSet<>(), all = new HashSet<>();
            if (noticed.containsKey(home)) {
                now.add(List.of(home, noticed.get(home)));
            }
            for (int steps = 0; !now.isEmpty(); steps++) {
                Set<List<Object>> next = new HashSet<>();
                for (List<Object> state : now) {
                    @SuppressWarnings("unchecked") Set<Integer> who = (Set<Integer>) state.get(1);
                    if (who.size() == people.size() - 1) {
                        return steps;
                    }
                    for (int t : besides((Integer) state.get(0))) {
                        if (noticed.containsKey(t)) {
                            Set<Integer> more = new TreeSet<>(who);
                            more.addAll(noticed.get(t));
                            List<Object> state2 = List.of(t, more);
                            if (all.add(state2)) {
                                next.add(state2);
                            }
                        }
                    }
                }
                now = next;
            }
            return -1;
        }

        int lesson(int p, int some) {
            Set<Integer> know = new TreeSet<>(Set.of(p));
            for (int moments = 0; moments < 20; moments++) {
                boolean all = true;
                for (int a = 0; a < people.size(); a++) {
                    all &= know.contains(a) || (some & 1 << a) != 0;
                }
                if (all) {
                    return moments;
                }
                Set<Integer> before = new TreeSet<>(know);
                for (int b : before) {
                    if (may(b) && !heardByOneOf(b, some)) {
                        for (int a = 0; a < people.size(); a++) {
                            if (a != b && hears(a, b)) {
                                know.add(a);
                            }
                        }
                    }
                }
            }
            return -1;
        }

        int best(int what) {
            int most = speakers(), best = -1;
            for (int q = 0; q < w * h; q++) {
                if (isFree(q) && !(what == 1 && fountains.contains(q))) {
                    State more = copy();
                    (what == 0 ? more.hedges : more.fountains).add(q);
                    int n = more.speakers();
                    if (n > most) {
                        most = n;
                        best = q;
                    }
                }
            }
            return best;
        }
    }

    State s = new State();
    final State[] images = new State[2];
    String text = "";
    int bads, nos, fulls;

    private int bad(int answer) {
        bads++;
        return answer;
    }

    private int no(int answer) {
        nos++;
        return answer;
    }

    private int full() {
        fulls++;
        return -4;
    }

    int garden(int w, int h) {
        if (w < 2 || w > 6 || h < 2 || h > 6) {
            return bad(-2);
        }
        s = new State();
        s.w = w;
        s.h = h;
        return w * h;
    }

    int set(int what, int q, boolean is) {
        if (what < 0 || what > 1 || !s.isSquare(q)) {
            return bad(-2);
        }
        Set<Integer> those = what == 0 ? s.hedges : s.fountains;
        if (those.contains(q) == is || what == 0 && is && s.isTaken(q)) {
            return no(-3);
        }
        if (is) {
            those.add(q);
        } else {
            those.remove(q);
        }
        return 1;
    }

    int put(int what, int v) {
        int before = what == 0 ? s.drown : s.wind;
        if (what == 0 && 0 <= v && v <= 4) {
            s.drown = v;
        } else if (what == 1 && -1 <= v && v <= 1) {
            s.wind = v;
        } else {
            return bad(-10);
        }
        return before;
    }

    int person(int kind, int q, int voice) {
        if (kind < 0 || kind > 5 || !s.isSquare(q) || voice < 0 || voice > 9) {
            return bad(-2);
        }
        if (!s.isFree(q)) {
            return no(-3);
        }
        if (s.people.size() == 5) {
            return full();
        }
        s.people.add(new Human(kind, q, voice));
        return s.people.size() - 1;
    }

    int move(int p, int q) {
        if (!s.isPerson(p) || !s.isSquare(q)) {
            return bad(-10);
        }
        int before = s.people.get(p).square;
        if (before != q && !s.isFree(q)) {
            return no(-20);
        }
        s = s.withPersonAt(p, q);
        return before;
    }

    int tell(int a, int b) {
        if (!s.isPerson(a) || !s.isPerson(b) || a == b) {
            return bad(-2);
        }
        if (s.tellings.size() == 6) {
            return full();
        }
        s.tellings.add(new int[] {a, b});
        return s.tellings.size() - 1;
    }

    int report(int by, int what) {
        if (!s.isPerson(by) || what < 0 || what > 3) {
            return bad(-2);
        }
        if (s.reports.size() == 8) {
            return full();
        }
        s.reports.add(new int[] {by, what});
        return s.reports.size() - 1;
    }

    int clears(int what) {
        if (what < 0 || what > 1) {
            return bad(-2);
        }
        List<int[]> those = what == 0 ? s.tellings : s.reports;
        int n = those.size();
        those.clear();
        return n;
    }

    int type(long v, int n) {
        if (n < 1 || n > 8) {
            return bad(-2);
        }
        if (text.length() + n > 250) {
            return full();
        }
        byte[] bytes = new byte[n];
        for (int k = 0; k < n; k++) {
            bytes[n - 1 - k] = (byte) (v >>> (8 * k));
        }
        text += new String(bytes, StandardCharsets.ISO_8859_1);
        return text.length();
    }

    int wipe() {
        int n = text.length();
        text = "";
        return n;
    }

    int read() {
        ModelPlan plan = new ModelPlan(text);
        State laid = plan.lay();
        if (laid == null) {
            return -10 - plan.fault;
        }
        s = laid;
        return s.people.size();
    }

    int clear(int p, int q) {
        return !s.isSquare(p) || !s.isSquare(q) ? bad(-2) : s.clear(p, q) ? 1 : 0;
    }

    int knows(int a, int b, int what) {
        if (!s.isPerson(a) || !s.isPerson(b) || a == b || what < 0 || what > 1) {
            return bad(-2);
        }
        return (what == 0 ? s.sees(a, b) : s.hears(a, b)) ? 1 : 0;
    }

    int where(int p) {
        return s.isPerson(p) ? s.people.get(p).square : bad(-2);
    }

    int may() {
        int bits = 0;
        for (int b = 0; b < s.people.size(); b++) {
            bits += s.may(b) ? 1 << b : 0;
        }
        return bits;
    }

    int judge(int speak) {
        return s.isGroup(speak) ? s.judge(speak) : bad(-2);
    }

    int told(int some) {
        return !s.isGroup(some) ? bad(-2) : s.told(some) ? 1 : 0;
    }

    int place(int p, int some) {
        if (!s.isPerson(p) || !s.isGroup(some)) {
            return bad(-2);
        }
        for (int q : s.squaresFor(p)) {
            if (s.withPersonAt(p, q).told(some)) {
                return q;
            }
        }
        return -1;
    }

    int winds(int some) {
        if (!s.isGroup(some)) {
            return bad(-2);
        }
        int bits = 0;
        for (int wind = -1; wind <= 1; wind++) {
            State blown = s.copy();
            blown.wind = wind;
            bits += blown.told(some) ? 1 << (wind + 1) : 0;
        }
        return bits;
    }

    int walk(int p, int q, int speak, int i) {
        if (!s.isPerson(p) || !s.isSquare(q) || !s.isGroup(speak) || i < -1) {
            return bad(-10);
        }
        List<Integer> way = s.walk(p, q, speak);
        if (way == null) {
            return -1;
        }
        return i == -1 ? way.size() - 1 : i < way.size() ? way.get(i) : -5;
    }

    int parade(int p, int what) {
        return !s.isPerson(p) || what < 0 || what > 1 ? bad(-2) : s.parade(p, what);
    }

    int lesson(int p, int some) {
        return !s.isPerson(p) || !s.isGroup(some) || (some & 1 << p) != 0 ? bad(-2) : s.lesson(p, some);
    }

    int speakers() {
        return s.speakers();
    }

    int best(int what) {
        return what < 0 || what > 1 ? bad(-2) : s.best(what);
    }

    int worth(int p, int kind) {
        return !s.isPerson(p) || kind < 0 || kind > 5 ? bad(-10) : s.withKind(p, kind).speakers() - s.speakers();
    }

    int spots(int p, int i) {
        if (!s.isPerson(p) || i < -1) {
            return bad(-10);
        }
        List<Integer> found = s.spots(p);
        return i == -1 ? found.size() : i < found.size() ? found.get(i) : -5;
    }

    int image(int i) {
        if (i < 0 || i > 1) {
            return bad(-2);
        }
        images[i] = s.copy();
        return 1;
    }

    int from(int i) {
        if (i < 0 || i > 1) {
            return bad(-2);
        }
        if (images[i] == null) {
            return no(-3);
        }
        s = images[i].copy();
        return 1;
    }

    int status(int what) {
        return what == 0 ? bads : what == 1 ? nos : what == 2 ? fulls : bad(-1);
    }

    private int[] counts() {
        return new int[] {s.people.size(), s.hedges.size(), s.fountains.size(), s.tellings.size(),
            s.reports.size(), text.length(), s.w * s.h};
    }

    int count(int what) {
        return what < 0 || what > 6 ? bad(-2) : counts()[what];
    }

    long digest() {
        List<Integer> all = new ArrayList<>();
        for (int n : counts()) {
            all.add(n);
        }
        all.addAll(List.of(s.w, s.drown, s.wind));
        for (Human one : s.people) {
            all.addAll(List.of(one.kind, one.square, one.voice));
        }
        for (int q = 0; q < s.w * s.h; q++) {
            all.add(s.hedges.contains(q) ? 1 : 0);
            all.add(s.fountains.contains(q) ? 1 : 0);
        }
        for (int[] t : s.tellings) {
            all.addAll(List.of(t[0], t[1]));
        }
        for (int[] r : s.reports) {
            all.addAll(List.of(r[0], r[1]));
        }
        long h = 743;
        for (int v : all) {
            h = 31 * h + v;
        }
        return h;
    }
}
