import java.math.BigInteger;
import java.util.ArrayList;
import java.util.List;

/** The bounds of the calls that lay out a garden and of those that tell what there is. */
final class CallsBoundaries {
    private static final String SIX = "garden 6 6;";
    private final Sentences s;

    CallsBoundaries(Sentences s) {
        this.s = s;
    }

    void lookAtAll() {
        newObject();
        garden();
        set();
        put();
        person();
        move();
        tell();
        report();
        clears();
        clear();
        knows();
        where();
        may();
        judge();
        image();
        from();
        status();
        count();
        digest();
        firstReason();
        manyCalls();
    }

    private void newObject() {
        s.says(1, "As told; nobody.");
        HeardSeen x = new HeardSeen();
        int[] want = {0, 0, 0, 0, 0, 0, 36};
        for (int what = 0; what < 7; what++) {
            s.due("count(" + what + ")", x.count(what), want[what]);
        }
        for (int what = 0; what < 3; what++) {
            s.due("status(" + what + ")", x.status(what), 0);
        }
        s.due("where(0)", x.where(0), HeardSeen.BAD);
        s.due("from(0)", x.from(0), HeardSeen.NO);
        s.due("from(1)", x.from(1), HeardSeen.NO);
        s.due("read()", x.read(), -10);
        s.due("put(0, 0)", x.put(0, 0), 1);
        s.due("put(1, 1)", x.put(1, 1), 0);
        // Two objects have nothing in common.
        HeardSeen other = new HeardSeen();
        x.image(0);
        x.type(32, 1);
        s.due("from(0) of another object", other.from(0), HeardSeen.NO);
        s.due("count(5) of another object", other.count(5), 0);
        s.due("put(0, 0) of another object", other.put(0, 0), 1);
    }

    private void garden() {
        s.says(2, "W by H, nothing, nobody there (DROWN, WIND as at first; no TELLINGS, REPORTS):");
        HeardSeen x = Sentences.fullest();
        int bads = x.status(0);
        s.due("garden(6, 2)", x.garden(6, 2), 12);
        int[] want = {0, 0, 0, 0, 0, 250, 12};
        for (int what = 0; what < 7; what++) {
            s.due("count(" + what + ")", x.count(what), want[what]);
        }
        s.due("status(0)", x.status(0), bads);
        s.due("put(0, 0)", x.put(0, 0), 1);
        s.due("put(1, 0)", x.put(1, 0), 0);
        for (int q = 0; q < 12; q++) {
            s.due("set(0, " + q + ", true)", x.set(0, q, true), 1);
            s.due("set(1, " + q + ", true)", x.set(1, q, true), 1);
        }
        s.due("garden(6, 2), the same again", x.garden(6, 2), 12);
        s.due("count(1)", x.count(1), 0);
        s.due("person(0, 11, 0)", x.person(0, 11, 0), 0);
        s.due("from(1): the images stay", x.from(1), 1);
        s.due("count(6)", x.count(6), 6);
        nobodyIsLeft();
        s.says(2, "how many SQUARES.");
        for (int w = 2; w <= 6; w++) {
            for (int h = 2; h <= 6; h++) {
                x = new HeardSeen();
                s.due("garden(" + w + ", " + h + ")", x.garden(w, h), w * h);
                s.due("the last square", x.set(1, w * h - 1, true), 1);
                s.due("one behind it", x.set(1, w * h, true), HeardSeen.BAD);
            }
        }
        s.says(2, "BAD.");
        int[] wrong = {-6, -2, -1, 0, 1, 7, 8};
        for (int v : wrong) {
            s.bad(Sentences::fullest, "garden(" + v + ", 2)", y -> y.garden(v, 2));
            s.bad(Sentences::smallest, "garden(6, " + v + ")", y -> y.garden(6, v));
            s.bad(HeardSeen::new, "garden(" + v + ", " + v + ")", y -> y.garden(v, v));
        }
        for (int v : Sentences.FAR) {
            s.bad(HeardSeen::new, "garden(" + v + ", 6)", y -> y.garden(v, 6));
            s.bad(HeardSeen::new, "garden(2, " + v + ")", y -> y.garden(2, v));
            s.bad(HeardSeen::new, "garden(" + v + ", " + v + ")", y -> y.garden(v, v));
        }
    }

    /** Those who were there before neither hear nor see anybody, nor do they tell or report. */
    private void nobodyIsLeft() {
        HeardSeen x = Sentences.laid("garden 6 2;person 0 0 9;person 0 1 9;person 2 2 9;person 2 3 9;person 5 4 9;"
            + "tell 0 1;");
        x.report(1, 1);
        s.due("may() of five", x.may(), 16);
        s.due("told(0)", x.told(0), 0);
        x.garden(6, 2);
        s.due("may() of nobody", x.may(), 0);
        x.person(0, 0, 9);
        s.due("may() of one", x.may(), 1);
        s.due("speakers()", x.speakers(), 0);
        s.due("judge(1)", x.judge(1), HeardSeen.NONE);
        s.due("told(0)", x.told(0), 1);
        s.due("spots(0, -1)", x.spots(0, -1), 12);
        s.due("parade(0, 1)", x.parade(0, 1), 0);
        x.person(2, 6, 9);
        s.due("may() of two", x.may(), 1);
        s.due("speakers()", x.speakers(), 1);
        s.due("spots(1, -1)", x.spots(1, -1), 11);
        s.due("parade(1, 0)", x.parade(1, 0), 0);
        s.due("parade(0, 1)", x.parade(0, 1), 0);
    }

    private void set() {
        s.says(3, "A HEDGE (what = 0), a FOUNTAIN (1) on a SQUARE, or none there: 1.");
        HeardSeen x = Sentences.smallest();
        s.due("set(0, 1, true)", x.set(0, 1, true), 1);
        s.due("set(1, 1, true)", x.set(1, 1, true), 1);
        s.due("set(0, 1, false)", x.set(0, 1, false), 1);
        s.due("count(1)", x.count(1), 0);
        s.due("count(2)", x.count(2), 1);
        s.due("set(1, 1, false)", x.set(1, 1, false), 1);
        s.due("count(2)", x.count(2), 0);
        s.says(3, "BAD;");
        int[] whats = {-1, 2, 3, 32};
        for (int what : whats) {
            s.bad(Sentences::fullest, "set(" + what + ", 0, true)", y -> y.set(what, 0, true));
            s.bad(Sentences::smallest, "set(" + what + ", 0, false)", y -> y.set(what, 0, false));
        }
        int[] squares = {-1, 4, 5, 36};
        for (int q : squares) {
            s.bad(Sentences::smallest, "set(0, " + q + ", true)", y -> y.set(0, q, true));
            s.bad(Sentences::smallest, "set(0, " + q + ", false)", y -> y.set(0, q, false));
            s.bad(Sentences::smallest, "set(1, " + q + ", true)", y -> y.set(1, q, true));
        }
        s.bad(Sentences::fullest, "set(1, 20, true)", y -> y.set(1, 20, true));
        for (int v : Sentences.FAR) {
            // Were 64 taken for 0, it would be so.
            s.bad(Sentences::fullest, "set(1, " + v + ", true)", y -> y.set(1, v, true));
            s.bad(Sentences::fullest, "set(0, " + v + ", false)", y -> y.set(0, v, false));
            s.bad(HeardSeen::new, "set(" + v + ", 0, true)", y -> y.set(v, 0, true));
        }
        s.says(3, "NO: it is so;");
        no("set(0, 7, true)", 0, 7, true);
        no("set(1, 19, true)", 1, 19, true);
        no("set(0, 19, false)", 0, 19, false);
        no("set(1, 7, false)", 1, 7, false);
        no("set(0, 6, false), where somebody stands", 0, 6, false);
        s.says(3, "a HEDGE where somebody stands.");
        int[] people = {6, 8, 16, 15, 10};
        for (int q : people) {
            no("set(0, " + q + ", true)", 0, q, true);
            x = Sentences.fullest();
            s.due("set(1, " + q + ", true), a FOUNTAIN", x.set(1, q, true), 1);
        }
        x = Sentences.fullest();
        x.move(0, 0);
        s.due("set(0, 6, true): he is gone", x.set(0, 6, true), 1);
        s.due("set(0, 0, true): he is there", x.set(0, 0, true), HeardSeen.NO);
    }

    private void no(String call, int what, int q, boolean is) {
        s.refused(Sentences::fullest, call, y -> y.set(what, q, is), HeardSeen.NO, Sentences.BY_NO);
    }

    private void put() {
        s.says(4, "DROWN (0), WIND (1): what it was.");
        HeardSeen x = new HeardSeen();
        int[] drowns = {1, 0, 4, 4, 3};
        int before = 1;
        for (int v : drowns) {
            s.due("put(0, " + v + ")", x.put(0, v), before);
            before = v;
        }
        int[] winds = {0, -1, -1, 1, 0};
        before = 0;
        for (int v : winds) {
            s.due("put(1, " + v + ")", x.put(1, v), before);
            before = v;
        }
        s.due("put(0, 0): the wind has not changed it", x.put(0, 0), 3);
        s.says(4, "BAD: -10.");
        int[][] wrong = {{0, -1}, {0, 5}, {1, -2}, {1, 2}, {2, 0}, {2, 1}, {-1, 0}, {-1, 1}, {3, 0}, {0, 32}, {1, 32}};
        for (int[] one : wrong) {
            s.ten("put(" + one[0] + ", " + one[1] + ")", y -> y.put(one[0], one[1]));
        }
        for (int v : Sentences.FAR) {
            s.ten("put(0, " + v + ")", y -> y.put(0, v));
            s.ten("put(1, " + v + ")", y -> y.put(1, v));
            s.ten("put(" + v + ", 0)", y -> y.put(v, 0));
        }
    }

    private void person() {
        s.says(5, "A PERSON: the number.");
        for (int w = 2; w <= 6; w += 4) {
            for (int kind = 0; kind <= 5; kind++) {
                HeardSeen x = new HeardSeen();
                x.garden(w, w);
                s.due("the first", x.person(kind, w * w - 1, 9), 0);
                s.due("the second", x.person(kind, 0, 0), 1);
                s.due("where(0)", x.where(0), w * w - 1);
                s.due("where(1)", x.where(1), 0);
            }
        }
        s.says(5, "BAD;");
        int[][] wrong = {{-1, 1, 0}, {6, 1, 0}, {0, -1, 0}, {0, 4, 0}, {0, 1, -1}, {0, 1, 10}};
        for (int[] one : wrong) {
            s.bad(Sentences::smallest, "person(" + one[0] + ", " + one[1] + ", " + one[2] + ")",
                y -> y.person(one[0], one[1], one[2]));
        }
        s.bad(HeardSeen::new, "person(0, 36, 0)", y -> y.person(0, 36, 0));
        for (int v : Sentences.FAR) {
            s.bad(HeardSeen::new, "person(" + v + ", 0, 0)", y -> y.person(v, 0, 0));
            s.bad(HeardSeen::new, "person(0, " + v + ", 0)", y -> y.person(0, v, 0));
            s.bad(HeardSeen::new, "person(0, 0, " + v + ")", y -> y.person(0, 0, v));
        }
        s.says(5, "NO: the SQUARE is not free;");
        s.refused(Sentences::smallest, "person(0, 0, 0)", y -> y.person(0, 0, 0), HeardSeen.NO, Sentences.BY_NO);
        s.refused(Sentences::smallest, "person(5, 3, 9)", y -> y.person(5, 3, 9), HeardSeen.NO, Sentences.BY_NO);
        s.refused(CallsBoundaries::hedged, "person(0, 3, 0)", y -> y.person(0, 3, 0), HeardSeen.NO, Sentences.BY_NO);
        s.due("person(0, 2, 0) on a fountain", hedged().person(0, 2, 0), 1);
        HeardSeen x = hedged();
        x.set(0, 3, false);
        s.due("person(0, 3, 0), the hedge is gone", x.person(0, 3, 0), 1);
        x.move(0, 1);
        s.due("person(0, 0, 0), he is gone", x.person(0, 0, 0), 2);
        s.says(5, "FULL: 5.");
        s.refused(Sentences::fullest, "person(0, 0, 0)", y -> y.person(0, 0, 0), HeardSeen.FULL, Sentences.BY_FULL);
        x = new HeardSeen();
        for (int p = 0; p < 5; p++) {
            s.due("person number " + p, x.person(0, p, 0), p);
        }
        s.due("a sixth", x.person(0, 5, 0), HeardSeen.FULL);
        s.due("count(0)", x.count(0), 5);
        x.garden(6, 6);
        s.due("in a new garden", x.person(0, 5, 0), 0);
    }

    private static HeardSeen hedged() {
        return Sentences.laid("garden 2 2;hedge 3;fountain 2;person 0 0 0;");
    }

    private void move() {
        s.says(6, "One goes to a SQUARE at once: where he was.");
        HeardSeen x = new HeardSeen();
        x.person(0, 0, 0);
        s.due("move(0, 35)", x.move(0, 35), 0);
        s.due("where(0)", x.where(0), 35);
        s.due("move(0, 0)", x.move(0, 0), 35);
        // Past hedges all around him, too.
        x.set(0, 1, true);
        x.set(0, 6, true);
        s.due("move(0, 2)", x.move(0, 2), 0);
        s.says(6, "BAD: -10;");
        int[][] wrong = {{-1, 0}, {5, 0}, {0, -1}, {0, 20}, {5, 20}, {-1, -1}, {32, 0}};
        for (int[] one : wrong) {
            s.ten("move(" + one[0] + ", " + one[1] + ")", y -> y.move(one[0], one[1]));
        }
        s.refused(HeardSeen::new, "move(0, 0) of nobody", y -> y.move(0, 0), -10, Sentences.BY_BAD);
        s.refused(Sentences::smallest, "move(2, 1)", y -> y.move(2, 1), -10, Sentences.BY_BAD);
        for (int v : Sentences.FAR) {
            s.ten("move(0, " + v + ")", y -> y.move(0, v));
            s.ten("move(" + v + ", 0)", y -> y.move(v, 0));
        }
        s.says(6, "NO: -20: it is not free");
        int[] taken = {7, 11, 8, 16, 15, 10};
        for (int q : taken) {
            s.refused(Sentences::fullest, "move(0, " + q + ")", y -> y.move(0, q), -20, Sentences.BY_NO);
        }
        s.due("move(0, 19), a fountain alone", Sentences.fullest().move(0, 19), 6);
        s.says(6, "(his own is: where he is).");
        int[] own = {6, 8, 16, 15, 10};
        for (int p = 0; p < 5; p++) {
            int one = p;
            s.asked(Sentences::fullest, "move(" + p + ", " + own[p] + ")", y -> y.move(one, own[one]), own[p]);
        }
    }

    private void tell() {
        s.says(7, "A TELLING: its number.");
        HeardSeen x = Sentences.smallest();
        s.due("the first", x.tell(0, 1), 0);
        s.due("the same again", x.tell(0, 1), 1);
        s.due("count(3)", x.count(3), 2);
        s.says(7, "BAD: alike, too;");
        int[][] wrong = {{-1, 0}, {0, -1}, {2, 0}, {0, 2}, {0, 0}, {1, 1}, {-1, -1}, {2, 2}, {32, 0}, {0, 32}};
        for (int[] one : wrong) {
            s.bad(Sentences::smallest, "tell(" + one[0] + ", " + one[1] + ")", y -> y.tell(one[0], one[1]));
        }
        s.bad(Sentences::fullest, "tell(4, 4), BAD ahead of FULL", y -> y.tell(4, 4));
        s.bad(Sentences::fullest, "tell(5, 4), BAD ahead of FULL", y -> y.tell(5, 4));
        s.bad(HeardSeen::new, "tell(0, 1) of nobody", y -> y.tell(0, 1));
        for (int v : Sentences.FAR) {
            s.bad(Sentences::smallest, "tell(0, " + v + ")", y -> y.tell(0, v));
            s.bad(Sentences::smallest, "tell(" + v + ", 0)", y -> y.tell(v, 0));
        }
        s.says(7, "FULL: 6.");
        s.refused(Sentences::fullest, "tell(3, 4)", y -> y.tell(3, 4), HeardSeen.FULL, Sentences.BY_FULL);
        s.says(Sentences.TERMS, "======== 2 TELLINGS 0 .. 5, as they come: a is to tell b.");
        x = Sentences.smallest();
        for (int t = 0; t < 6; t++) {
            s.due("tell number " + t, x.tell(t % 2, 1 - t % 2), t);
        }
        s.due("a seventh", x.tell(0, 1), HeardSeen.FULL);
        x.clears(0);
        s.due("after clears(0)", x.tell(0, 1), 0);
    }

    private void report() {
        s.says(8, "A REPORT: its number.");
        HeardSeen x = Sentences.smallest();
        for (int what = 0; what < 4; what++) {
            s.due("report(1, " + what + ")", x.report(1, what), what);
        }
        s.due("the same again", x.report(1, 3), 4);
        s.says(8, "BAD;");
        int[][] wrong = {{-1, 0}, {2, 0}, {0, -1}, {0, 4}, {32, 0}, {0, 32}};
        for (int[] one : wrong) {
            s.bad(Sentences::smallest, "report(" + one[0] + ", " + one[1] + ")", y -> y.report(one[0], one[1]));
        }
        s.bad(Sentences::fullest, "report(5, 0), BAD ahead of FULL", y -> y.report(5, 0));
        s.bad(Sentences::fullest, "report(4, 4), BAD ahead of FULL", y -> y.report(4, 4));
        s.bad(HeardSeen::new, "report(0, 0) of nobody", y -> y.report(0, 0));
        for (int v : Sentences.FAR) {
            s.bad(Sentences::smallest, "report(0, " + v + ")", y -> y.report(0, v));
            s.bad(Sentences::smallest, "report(" + v + ", 0)", y -> y.report(v, 0));
        }
        s.says(8, "FULL: 8.");
        x = Sentences.smallest();
        for (int r = 0; r < 8; r++) {
            s.due("report number " + r, x.report(r % 2, r % 4), r);
        }
        s.due("a ninth", x.report(0, 0), HeardSeen.FULL);
        s.refused(Sentences::fullest, "report(4, 3)", y -> y.report(4, 3), HeardSeen.FULL, Sentences.BY_FULL);
        x.clears(1);
        s.due("after clears(1)", x.report(0, 1), 0);
    }

    private void clears() {
        s.says(9, "No TELLINGS (0), REPORTS (1): how many there were.");
        HeardSeen x = Sentences.fullest();
        s.due("clears(0) of six", x.clears(0), 6);
        s.due("count(3)", x.count(3), 0);
        s.due("count(4)", x.count(4), 8);
        s.due("clears(0) of none", x.clears(0), 0);
        s.due("clears(1) of eight", x.clears(1), 8);
        s.due("count(4)", x.count(4), 0);
        s.due("clears(1) of none", x.clears(1), 0);
        s.due("told(31) of none", x.told(31), 1);
        for (int p = 0; p < 5; p++) {
            s.due("spots(" + p + ", -1) of none", x.spots(p, -1), 14);
        }
        s.due("count(0)", x.count(0), 5);
        s.says(9, "BAD.");
        s.bad(Sentences::fullest, "clears(-1)", y -> y.clears(-1));
        s.bad(Sentences::fullest, "clears(2)", y -> y.clears(2));
        for (int v : Sentences.FAR) {
            s.bad(Sentences::fullest, "clears(" + v + ")", y -> y.clears(v));
        }
    }

    private void clear() {
        s.says(13, "CLEAR: 1, 0.");
        s.asked(Sentences::fullest, "clear(6, 8) past 7", y -> y.clear(6, 8), 0);
        s.asked(Sentences::fullest, "clear(6, 7)", y -> y.clear(6, 7), 1);
        s.asked(Sentences::fullest, "clear(7, 7)", y -> y.clear(7, 7), 1);
        s.asked(Sentences::fullest, "clear(0, 19), the last square", y -> y.clear(0, 19), 0);
        s.says(13, "BAD.");
        int[] wrong = {-1, 4, 5};
        for (int v : wrong) {
            s.bad(Sentences::smallest, "clear(" + v + ", 0)", y -> y.clear(v, 0));
            s.bad(Sentences::smallest, "clear(3, " + v + ")", y -> y.clear(3, v));
            s.bad(Sentences::smallest, "clear(" + v + ", " + v + ")", y -> y.clear(v, v));
        }
        for (int v : Sentences.FAR) {
            s.bad(HeardSeen::new, "clear(" + v + ", 0)", y -> y.clear(v, 0));
            s.bad(HeardSeen::new, "clear(0, " + v + ")", y -> y.clear(0, v));
        }
        s.bad(HeardSeen::new, "clear(36, 0)", y -> y.clear(36, 0));
    }

    private void knows() {
        s.says(14, "Whether a SEES b (what = 0), HEARS b (1): 1, 0.");
        s.asked(Sentences::smallest, "knows(0, 1, 0)", y -> y.knows(0, 1, 0), 1);
        s.asked(Sentences::smallest, "knows(1, 0, 0)", y -> y.knows(1, 0, 0), 1);
        s.asked(Sentences::smallest, "knows(0, 1, 1)", y -> y.knows(0, 1, 1), 1);
        s.asked(Sentences::smallest, "knows(1, 0, 1)", y -> y.knows(1, 0, 1), 0);
        s.asked(Sentences::fullest, "knows(4, 3, 1)", y -> y.knows(4, 3, 1), 1);
        s.asked(Sentences::fullest, "knows(3, 4, 1)", y -> y.knows(3, 4, 1), 0);
        s.says(14, "BAD: alike, too.");
        int[][] wrong = {{0, 0, 0}, {1, 1, 1}, {-1, 0, 0}, {0, -1, 0}, {2, 0, 0}, {0, 2, 1}, {0, 1, -1}, {0, 1, 2},
            {2, 2, 0}, {32, 0, 0}, {0, 33, 0}};
        for (int[] one : wrong) {
            s.bad(Sentences::smallest, "knows(" + one[0] + ", " + one[1] + ", " + one[2] + ")",
                y -> y.knows(one[0], one[1], one[2]));
        }
        s.bad(Sentences::fullest, "knows(5, 0, 0)", y -> y.knows(5, 0, 0));
        for (int v : Sentences.FAR) {
            s.bad(Sentences::fullest, "knows(" + v + ", 0, 0)", y -> y.knows(v, 0, 0));
            s.bad(Sentences::fullest, "knows(0, " + v + ", 0)", y -> y.knows(0, v, 0));
            s.bad(Sentences::fullest, "knows(0, 1, " + v + ")", y -> y.knows(0, 1, v));
        }
    }

    private void where() {
        s.says(15, "Where one is.");
        int[] want = {6, 8, 16, 15, 10};
        for (int p = 0; p < 5; p++) {
            int one = p;
            s.asked(Sentences::fullest, "where(" + p + ")", y -> y.where(one), want[p]);
        }
        s.asked(Sentences::smallest, "where(0) on the first square", y -> y.where(0), 0);
        s.says(15, "BAD.");
        s.bad(HeardSeen::new, "where(0) of nobody", y -> y.where(0));
        s.bad(Sentences::smallest, "where(2)", y -> y.where(2));
        s.bad(Sentences::fullest, "where(5)", y -> y.where(5));
        s.bad(Sentences::fullest, "where(-1)", y -> y.where(-1));
        for (int v : Sentences.FAR) {
            s.bad(Sentences::fullest, "where(" + v + ")", y -> y.where(v));
        }
    }

    private void may() {
        s.says(16, "MAY speak, as bits.");
        s.asked(HeardSeen::new, "may() of nobody", HeardSeen::may, 0);
        s.asked(Sentences::smallest, "may()", HeardSeen::may, 1);
        s.asked(() -> Sentences.laid("garden 2 3;person 2 0 9;person 2 1 9;person 2 2 9;person 2 3 9;person 2 4 9;"),
            "may() of all", HeardSeen::may, 31);
        s.asked(() -> Sentences.laid("garden 6 2;person 0 0 9;person 0 1 9;person 0 2 9;person 0 3 9;person 0 5 0;"),
            "may() of the last one", HeardSeen::may, 16);
    }

    private void judge() {
        s.says(17, "JUDGE: 10 a and b. NONE.");
        s.asked(HeardSeen::new, "judge(0) of nobody", y -> y.judge(0), HeardSeen.NONE);
        s.asked(Sentences::smallest, "judge(0)", y -> y.judge(0), HeardSeen.NONE);
        s.asked(Sentences::smallest, "judge(1)", y -> y.judge(1), HeardSeen.NONE);
        s.asked(Sentences::smallest, "judge(2)", y -> y.judge(2), 1);
        s.asked(Sentences::smallest, "judge(3)", y -> y.judge(3), 1);
        s.asked(() -> Sentences.laid("garden 2 2;person 0 0 9;person 0 3 0;"), "judge(3)", y -> y.judge(3), 10);
        s.says(17, "BAD.");
        s.group("judge", HeardSeen::judge);
    }

    private void image() {
        s.says(28, "An IMAGE is kept: 1.");
        HeardSeen x = new HeardSeen();
        s.due("image(0) of nothing", x.image(0), 1);
        s.due("image(1)", x.image(1), 1);
        x.garden(2, 2);
        s.due("from(0): it was kept", x.from(0), 1);
        s.due("count(6)", x.count(6), 36);
        x.garden(2, 3);
        s.due("image(0) again", x.image(0), 1);
        x.from(1);
        s.due("count(6): the other one is as it was", x.count(6), 36);
        x.from(0);
        s.due("count(6): in its place", x.count(6), 6);
        s.says(28, "BAD.");
        s.bad(Sentences::fullest, "image(-1)", y -> y.image(-1));
        s.bad(Sentences::fullest, "image(2)", y -> y.image(2));
        for (int v : Sentences.FAR) {
            s.bad(Sentences::fullest, "image(" + v + ")", y -> y.image(v));
        }
    }

    private void from() {
        s.says(Sentences.TERMS, "IMAGES 0, 1 keep all but them, THE TEXT and STATUS; it goes on from one.");
        HeardSeen x = Sentences.fullest();
        HeardSeen twin = Sentences.fullest();
        x.image(0);
        twin.image(0);
        x.garden(2, 2);
        x.person(5, 0, 0);
        x.image(1);
        x.from(0);
        twin.garden(2, 2);
        twin.person(5, 0, 0);
        twin.image(1);
        twin.from(0);
        x.set(0, 0, true);
        s.due("from(0) a second time", x.from(0), 1);
        s.due("all, compared with an object that was changed no more,", Sentences.compare(x, twin), -1);
        keepsEachPart();
        x = Sentences.fullest();
        x.image(1);
        Sentences.typeText(x, SIX);
        int bads = x.status(0);
        x.count(7);
        x.set(0, 7, true);
        x.type(0, 9);
        s.due("from(1)", x.from(1), 1);
        s.due("count(5): THE TEXT is not kept", x.count(5), SIX.length());
        s.due("status(0): STATUS neither", x.status(0), bads + 2);
        s.due("read()", x.read(), 0);
        s.says(29, "It goes on from an IMAGE: 1.");
        x = Sentences.fullest();
        s.due("from(0)", x.from(0), 1);
        s.due("count(0)", x.count(0), 2);
        s.due("count(4)", x.count(4), 0);
        s.due("put(1, 0)", x.put(1, 0), 0);
        s.due("from(1)", x.from(1), 1);
        s.due("count(4)", x.count(4), 1);
        s.due("put(1, 0)", x.put(1, 0), 1);
        s.says(29, "BAD;");
        s.bad(Sentences::fullest, "from(-1)", y -> y.from(-1));
        s.bad(Sentences::fullest, "from(2)", y -> y.from(2));
        s.bad(HeardSeen::new, "from(2), none kept", y -> y.from(2));
        for (int v : Sentences.FAR) {
            s.bad(Sentences::fullest, "from(" + v + ")", y -> y.from(v));
        }
        s.says(29, "NO: none was kept.");
        for (int i = 0; i < 2; i++) {
            int one = i;
            s.refused(Sentences::smallest, "from(" + i + ")", y -> y.from(one), HeardSeen.NO, Sentences.BY_NO);
            s.refused(() -> withImage(1 - one), "from(" + i + "), the other one was", y -> y.from(one), HeardSeen.NO,
                Sentences.BY_NO);
        }
    }

    /** All parts are others while it goes on, in rows as long as those that were kept. */
    private void keepsEachPart() {
        for (int i = 0; i < 2; i++) {
            HeardSeen x = Sentences.fullest();
            x.wipe();
            long kept = x.digest();
            x.image(i);
            x.garden(4, 5);
            x.put(0, 4);
            x.put(1, 1);
            x.set(0, 0, true);
            x.set(1, 1, true);
            for (int p = 0; p < 5; p++) {
                x.person(5 - p, 19 - p, p);
            }
            for (int t = 0; t < 6; t++) {
                x.tell(4, t % 4);
            }
            for (int r = 0; r < 8; r++) {
                x.report(4 - r % 5, 3 - r % 4);
            }
            s.due("digest(), all is another", x.digest() == kept ? 1 : 0, 0);
            long other = x.digest();
            x.image(1 - i);
            s.due("from(" + i + ")", x.from(i), 1);
            s.due("digest()", x.digest(), kept);
            s.due("from(" + (1 - i) + ")", x.from(1 - i), 1);
            s.due("digest()", x.digest(), other);
        }
    }

    private static HeardSeen withImage(int i) {
        HeardSeen x = Sentences.smallest();
        x.image(i);
        return x;
    }

    private void status() {
        s.says(Sentences.TERMS, "STATUS: how many calls were refused as BAD, NO, FULL (each answer told so below is "
            + "such a one).");
        HeardSeen x = Sentences.smallest();
        x.put(9, 9);
        x.move(0, 3);
        x.from(0);
        x.tell(0, 0);
        x.tell(0, 1);
        for (int t = 0; t < 8; t++) {
            x.tell(0, 1);
        }
        s.due("status(0)", x.status(0), 2);
        s.due("status(1)", x.status(1), 2);
        s.due("status(2)", x.status(2), 3);
        // Answers below 0 that are no refusals.
        x = Sentences.smallest();
        x.put(1, -1);
        int[] answers = {x.put(1, 0), x.judge(0), x.place(0, 0), x.walk(0, 3, 0, 0), x.walk(0, 1, 0, 9), x.parade(1, 1),
            x.lesson(1, 0), x.best(0), x.spots(0, 9), x.read()};
        int[] want = {-1, -1, 0, -1, -5, -1, -1, -1, -5, -10};
        for (int k = 0; k < answers.length; k++) {
            s.due("answer " + k, answers[k], want[k]);
        }
        for (int what = 0; what < 3; what++) {
            s.due("status(" + what + ")", x.status(what), 0);
        }
        s.says(30, "STATUS: BAD (0), NO (1), FULL (2).");
        s.asked(Sentences::fullest, "status(0)", y -> y.status(0), 1);
        s.asked(Sentences::fullest, "status(1)", y -> y.status(1), 1);
        s.asked(Sentences::fullest, "status(2)", y -> y.status(2), 1);
        s.says(30, "-1: another what (counts as BAD).");
        s.refused(Sentences::fullest, "status(-1)", y -> y.status(-1), -1, Sentences.BY_BAD);
        s.refused(Sentences::fullest, "status(3)", y -> y.status(3), -1, Sentences.BY_BAD);
        for (int v : Sentences.FAR) {
            s.refused(Sentences::fullest, "status(" + v + ")", y -> y.status(v), -1, Sentences.BY_BAD);
        }
    }

    private void count() {
        s.says(31, "How many: 0 PEOPLE, 1 HEDGES, 2 FOUNTAINS, 3 TELLINGS, 4 REPORTS, 5 bytes of THE TEXT, 6 SQUARES.");
        int[] most = {5, 2, 1, 6, 8, 250, 20};
        int[] least = {2, 0, 0, 0, 0, 0, 4};
        for (int what = 0; what < 7; what++) {
            int one = what;
            s.asked(Sentences::fullest, "count(" + what + ")", y -> y.count(one), most[what]);
            s.asked(Sentences::smallest, "count(" + what + ")", y -> y.count(one), least[what]);
        }
        s.says(31, "BAD.");
        s.bad(Sentences::fullest, "count(-1)", y -> y.count(-1));
        s.bad(Sentences::fullest, "count(7)", y -> y.count(7));
        for (int v : Sentences.FAR) {
            s.bad(Sentences::fullest, "count(" + v + ")", y -> y.count(v));
        }
    }

    /** In numbers without a bound, cut to 64 bits at the end alone. */
    private static long digestOf(List<Integer> values) {
        BigInteger h = BigInteger.valueOf(743);
        for (int v : values) {
            h = h.multiply(BigInteger.valueOf(31)).add(BigInteger.valueOf(v));
        }
        return h.longValue();
    }

    private void digest() {
        s.says(32, "h = 743; then h = 31 h + v for each v: count(0) to count(6); W, DROWN, WIND; of PEOPLE KIND, "
            + "SQUARE, VOICE; of SQUARES whether there is a HEDGE, a FOUNTAIN (1, 0); of TELLINGS a, b; of REPORTS by "
            + "whom, what.");
        List<Integer> v = new ArrayList<>(List.of(5, 2, 1, 6, 8, 250, 20, 5, 0, -1));
        v.addAll(List.of(0, 6, 3, 2, 8, 2, 3, 16, 9, 4, 15, 4, 5, 10, 0));
        for (int q = 0; q < 20; q++) {
            v.add(q == 7 || q == 11 ? 1 : 0);
            v.add(q == 19 ? 1 : 0);
        }
        v.addAll(List.of(0, 1, 2, 3, 2, 4, 1, 4, 0, 4, 3, 1));
        for (int r = 0; r < 8; r++) {
            v.add(r % 5);
            v.add(r % 4);
        }
        long fullest = digestOf(v);
        s.asked(Sentences::fullest, "digest()", HeardSeen::digest, fullest);
        long smallest = digestOf(List.of(2, 0, 0, 0, 0, 0, 4, 2, 1, 0, 0, 0, 0, 0, 3, 9, 0, 0, 0, 0, 0, 0, 0, 0));
        s.asked(Sentences::smallest, "digest()", HeardSeen::digest, smallest);
        v = new ArrayList<>(List.of(0, 36, 36, 0, 0, 0, 36, 6, 4, 1));
        HeardSeen x = new HeardSeen();
        for (int q = 0; q < 36; q++) {
            x.set(0, q, true);
            x.set(1, q, true);
            v.add(1);
            v.add(1);
        }
        x.put(0, 4);
        x.put(1, 1);
        s.due("digest() with hedges and fountains everywhere", x.digest(), digestOf(v));
    }

    private void firstReason() {
        s.says(Sentences.TERMS, "Refused, changing nothing but STATUS, the first of: BAD -2 a number is not as told; "
            + "NO -3 as told; FULL -4 (where others are told they count as these).");
        s.bad(Sentences::fullest, "person(6, 6, 0): BAD ahead of NO and FULL", y -> y.person(6, 6, 0));
        s.bad(Sentences::fullest, "person(0, 7, 10): BAD ahead of NO and FULL", y -> y.person(0, 7, 10));
        s.bad(Sentences::fullest, "person(0, 0, 10): BAD ahead of FULL", y -> y.person(0, 0, 10));
        int[] taken = {6, 8, 16, 15, 10, 7, 11};
        for (int q : taken) {
            s.refused(Sentences::fullest, "person(0, " + q + ", 0): NO ahead of FULL", y -> y.person(0, q, 0),
                HeardSeen.NO, Sentences.BY_NO);
        }
        s.ten("move(5, 7): BAD ahead of NO", y -> y.move(5, 7));
        s.bad(Sentences::fullest, "set(2, 7, true): BAD ahead of NO", y -> y.set(2, 7, true));
        s.bad(Sentences::fullest, "tell(0, 0): BAD ahead of FULL", y -> y.tell(0, 0));
        s.bad(Sentences::fullest, "report(0, 4): BAD ahead of FULL", y -> y.report(0, 4));
        s.bad(Sentences::fullest, "type(0, 0): BAD ahead of FULL", y -> y.type(0, 0));
    }

    private void manyCalls() {
        s.says(Sentences.TERMS, "An object is used for at most 512 calls after it has been made;");
        HeardSeen x = new HeardSeen();
        for (int k = 0; k < 511; k++) {
            x.count(7);
        }
        s.due("the 512th call, status(0)", x.status(0), 511);
        x = new HeardSeen();
        x.set(0, 0, true);
        for (int k = 0; k < 510; k++) {
            x.set(0, 0, true);
        }
        s.due("the 512th call, status(1)", x.status(1), 510);
        x = Sentences.laid("garden 2 2;person 0 0 0;person 0 3 0;");
        for (int k = 0; k < 500; k++) {
            x.tell(0, 1);
        }
        s.due("status(2) after 500 tellings", x.status(2), 494);
    }
}
