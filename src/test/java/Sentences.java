import java.util.ArrayList;
import java.util.List;
import java.util.function.Supplier;
import java.util.function.ToLongBiFunction;
import java.util.function.ToLongFunction;

/** The document's sentences, one by one, with the answers that are due by each; 0 in place of a promise: the terms. */
final class Sentences {
    static final int TERMS = 0, BY_BAD = 0, BY_NO = 1, BY_FULL = 2;
    static final int[] FAR = {Integer.MIN_VALUE, Integer.MIN_VALUE + 1, -65536, -20, 64, 128, 256, 65536,
        Integer.MAX_VALUE - 1, Integer.MAX_VALUE};

    record Quote(int promise, String words) { }

    final List<Quote> quotes = new ArrayList<>();
    private int duesOfLast = 1;
    private int wrong;

    void says(int promise, String words) {
        needADue();
        quotes.add(new Quote(promise, words));
        duesOfLast = 0;
    }

    void due(String call, long got, long want) {
        duesOfLast++;
        if (got != want) {
            fail(call + " answered " + got + ", due is " + want);
        }
    }

    void fail(String what) {
        wrong++;
        System.out.println(last() + ": " + what);
    }

    private String last() {
        if (quotes.isEmpty()) {
            return "ahead of all";
        }
        Quote last = quotes.get(quotes.size() - 1);
        return (last.promise() == TERMS ? "terms" : "promise " + last.promise()) + ", '" + last.words() + "'";
    }

    private void needADue() {
        if (duesOfLast == 0) {
            fail("nothing is tested");
        }
    }

    int countWrong() {
        needADue();
        return wrong;
    }

    /** The call is answered so, counted once by its reason, and leaves all else as in an object without it. */
    void refused(Supplier<HeardSeen> maker, String call, ToLongFunction<HeardSeen> asked, int want, int reason) {
        HeardSeen x = maker.get();
        HeardSeen twin = maker.get();
        due(call, asked.applyAsLong(x), want);
        for (int what = 0; what < 3; what++) {
            due("status(" + what + ") after " + call, x.status(what), twin.status(what) + (what == reason ? 1 : 0));
        }
        due("what there is after " + call + ", compared,", compare(x, twin), -1);
    }

    void bad(Supplier<HeardSeen> maker, String call, ToLongFunction<HeardSeen> asked) {
        refused(maker, call, asked, HeardSeen.BAD, BY_BAD);
    }

    void ten(String call, ToLongFunction<HeardSeen> asked) {
        refused(Sentences::fullest, call, asked, -10, BY_BAD);
    }

    void none(Supplier<HeardSeen> maker, String call, ToLongFunction<HeardSeen> asked) {
        asked(maker, call, asked, HeardSeen.NONE);
    }

    /** Bits of people who are not there are BAD, whatever the others are. */
    void group(String name, ToLongBiFunction<HeardSeen, Integer> asked) {
        bad(HeardSeen::new, name + "(1) of nobody", y -> asked.applyAsLong(y, 1));
        int[] ofTwo = {-1, 4, 5, 7, 8};
        for (int bits : ofTwo) {
            bad(Sentences::smallest, name + "(" + bits + ") of two", y -> asked.applyAsLong(y, bits));
        }
        int[] ofFive = {-32, -31, -1, 32, 33, 63};
        for (int bits : ofFive) {
            bad(Sentences::fullest, name + "(" + bits + ") of five", y -> asked.applyAsLong(y, bits));
        }
        for (int v : FAR) {
            bad(Sentences::fullest, name + "(" + v + ")", y -> asked.applyAsLong(y, v));
        }
    }

    /** The call is answered so and changes nothing, STATUS neither. */
    void asked(Supplier<HeardSeen> maker, String call, ToLongFunction<HeardSeen> asked, long want) {
        HeardSeen x = maker.get();
        HeardSeen twin = maker.get();
        due(call, asked.applyAsLong(x), want);
        for (int what = 0; what < 3; what++) {
            due("status(" + what + ") after " + call, x.status(what), twin.status(what));
        }
        due("what there is after " + call + ", compared,", compare(x, twin), -1);
    }

    /** Where the answers of two objects part, or -1. */
    static int compare(HeardSeen x, HeardSeen y) {
        List<Long> some = allOf(x);
        List<Long> others = allOf(y);
        for (int k = 0; k < Math.max(some.size(), others.size()); k++) {
            if (k >= some.size() || k >= others.size() || !some.get(k).equals(others.get(k))) {
                return k;
            }
        }
        return -1;
    }

    /** All that is kept, asked for; the images and the text come last, as the object goes on from them. */
    private static List<Long> allOf(HeardSeen x) {
        List<Long> all = new ArrayList<>();
        int people = x.count(0);
        int last = x.count(6) - 1;
        long[] once = {x.digest(), last, x.may(), x.speakers(), x.told(0), x.winds(0), x.best(0), x.best(1)};
        for (long v : once) {
            all.add(v);
        }
        for (int p = 0; p < people; p++) {
            int[] ofOne = {x.where(p), x.place(p, 0), x.walk(p, last, 0, -1), x.parade(p, 0), x.parade(p, 1),
                x.lesson(p, 0), x.spots(p, -1)};
            for (int v : ofOne) {
                all.add((long) v);
            }
            for (int q = 0; q < people; q++) {
                if (p != q) {
                    all.add((long) x.knows(p, q, 0));
                    all.add((long) x.knows(p, q, 1));
                }
            }
        }
        for (int i = 0; i < 2; i++) {
            all.add((long) x.from(i));
            all.add(x.digest());
        }
        all.add((long) x.read());
        all.add(x.digest());
        return all;
    }

    static int typeText(HeardSeen x, String text) {
        x.wipe();
        int length = 0;
        for (int at = 0; at < text.length(); at += 8) {
            int n = Math.min(8, text.length() - at);
            long v = 0;
            for (int k = 0; k < n; k++) {
                v = v << 8 | text.charAt(at + k) & 255;
            }
            length = x.type(v, n);
        }
        return length;
    }

    static HeardSeen laid(String plan) {
        HeardSeen x = new HeardSeen();
        typeText(x, plan);
        int people = x.read();
        if (people < 0) {
            throw new IllegalStateException("a plan of the test's own has a fault: " + plan + " " + people);
        }
        x.wipe();
        return x;
    }

    /** Nothing can come to it any more: five people, six tellings, eight reports, 250 bytes, two images. */
    static HeardSeen fullest() {
        HeardSeen x = laid("garden 2 3;person 0 5 1;person 0 0 9;tell 0 1;");
        x.image(0);
        x.report(1, 1);
        x.put(1, 1);
        x.image(1);
        String plan = "garden 5 4;hedge 7;hedge 11;fountain 19;drown 0;wind - 1;person 0 6 3;person 2 8 2;"
            + "person 3 16 9;person 4 15 4;person 5 10 0;tell 0 1;tell 2 3;tell 2 4;tell 1 4;tell 0 4;tell 3 1;";
        typeText(x, plan);
        x.read();
        for (int r = 0; r < 8; r++) {
            x.report(r % 5, r % 4);
        }
        x.report(0, 0);
        x.set(0, 6, true);
        x.set(2, 0, true);
        typeText(x, "garden 3 4;person 1 7 5;person 2 3 2;wind 1;tell 1 0;" + " ".repeat(197));
        return x;
    }

    /** The smallest garden with two people, nothing else. */
    static HeardSeen smallest() {
        return laid("garden 2 2;person 0 0 0;person 0 3 9;");
    }
}
