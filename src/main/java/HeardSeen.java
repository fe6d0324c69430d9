/** A garden in which nobody may be heard and seen by the same one; DOC.md says what each call answers. */
public final class HeardSeen {
    public static final int NONE = -1, BAD = -2, NO = -3, FULL = -4;

    private static final int LEAST_SIDE = 2, MOST_SIDE = 6, MOST_SQUARES = 36;
    private static final int MOST_PEOPLE = 5, MOST_KIND = 5, MOST_VOICE = 9;
    private static final int MOST_TELLINGS = 6, MOST_REPORTS = 8, MOST_BYTES = 250, IMAGES = 2;
    private static final int MOST_DROWN = 4, MOST_WIND = 1;
    private static final int HEDGE = 0, FOUNTAIN = 1;
    private static final int SEEN = 0, NOT_SEEN = 1, HEARD = 2, NOT_HEARD = 3;
    private static final int BY_EYE = 0, BY_EAR = 1;
    // Where -1, -2, -3 may be a true answer, these are told in their place.
    private static final int OTHER_BAD = -10, OTHER_NO = -20, NOT_SO_MANY = -5;

    private final Garden now = new Garden();
    private final Garden draft = new Garden();
    // One that was never kept is null; it is made once, when it is kept first, and used again from then on.
    private final Garden[] images = new Garden[IMAGES];
    private final Plan plan = new Plan();
    private final Law law;
    private final Paths paths;
    private int bads;
    private int nos;
    private int fulls;

    public HeardSeen() {
        law = new Law(now);
        paths = new Paths(now, law);
    }

    // ---- a garden

    public int garden(int w, int h) {
        if (!isWithin(w, LEAST_SIDE, MOST_SIDE) || !isWithin(h, LEAST_SIDE, MOST_SIDE)) {
            return refuseBad(BAD);
        }
        now.layOut(w, h);
        return now.squareCount();
    }

    public int set(int what, int square, boolean is) {
        if (!isWithin(what, HEDGE, FOUNTAIN) || !now.isSquare(square)) {
            return refuseBad(BAD);
        }
        if (now.has(what, square) == is) {
            return refuseNo(NO);
        }
        if (what == HEDGE && is && now.isTaken(square)) {
            return refuseNo(NO);
        }
        now.turn(what, square);
        return 1;
    }

    public int put(int what, int v) {
        if (what == 0 && isWithin(v, 0, MOST_DROWN)) {
            int before = now.drown;
            now.drown = v;
            return before;
        }
        if (what == 1 && isWithin(v, -MOST_WIND, MOST_WIND)) {
            int before = now.wind;
            now.wind = v;
            return before;
        }
        return refuseBad(OTHER_BAD);
    }

    public int person(int kind, int square, int voice) {
        if (!isWithin(kind, 0, MOST_KIND) || !now.isSquare(square) || !isWithin(voice, 0, MOST_VOICE)) {
            return refuseBad(BAD);
        }
        if (!now.isFree(square)) {
            return refuseNo(NO);
        }
        int number = now.addPerson(kind, square, voice);
        return number == NONE ? refuseFull() : number;
    }

    public int move(int person, int square) {
        if (!now.isPerson(person) || !now.isSquare(square)) {
            return refuseBad(OTHER_BAD);
        }
        int before = now.squareOf(person);
        if (square != before && !now.isFree(square)) {
            return refuseNo(OTHER_NO);
        }
        now.stand(person, square);
        return before;
    }

    public int tell(int a, int b) {
        if (!isPairOfTwo(a, b)) {
            return refuseBad(BAD);
        }
        int number = now.addTelling(a, b);
        return number == NONE ? refuseFull() : number;
    }

    public int report(int by, int what) {
        if (!now.isPerson(by) || !isWithin(what, SEEN, NOT_HEARD)) {
            return refuseBad(BAD);
        }
        int number = now.addReport(by, what);
        return number == NONE ? refuseFull() : number;
    }

    public int clears(int what) {
        if (what == 0) {
            int before = now.tellings;
            now.tellings = 0;
            return before;
        }
        if (what == 1) {
            int before = now.reports;
            now.reports = 0;
            return before;
        }
        return refuseBad(BAD);
    }

    public int type(long v, int n) {
        if (!isWithin(n, 1, 8)) {
            return refuseBad(BAD);
        }
        return plan.append(v, n) ? plan.length : refuseFull();
    }

    public int wipe() {
        int before = plan.length;
        plan.length = 0;
        return before;
    }

    public int read() {
        int fault = plan.layInto(draft);
        if (fault != NONE) {
            return OTHER_BAD - fault;
        }
        now.copyFrom(draft);
        return now.people;
    }

    // ---- who sees, hears

    public int clear(int p, int q) {
        if (!now.isSquare(p) || !now.isSquare(q)) {
            return refuseBad(BAD);
        }
        return now.isClear(p, q) ? 1 : 0;
    }

    public int knows(int a, int b, int what) {
        if (!isPairOfTwo(a, b) || !isWithin(what, BY_EYE, BY_EAR)) {
            return refuseBad(BAD);
        }
        law.look();
        int those = what == BY_EYE ? law.whoSee(b) : law.whoHear(b);
        return isIn(those, a) ? 1 : 0;
    }

    public int where(int person) {
        return now.isPerson(person) ? now.squareOf(person) : refuseBad(BAD);
    }

    public int may() {
        law.look();
        return law.mayMask();
    }

    public int judge(int speak) {
        if (!isGroup(speak)) {
            return refuseBad(BAD);
        }
        law.look();
        return law.firstBreach(speak);
    }

    // ---- tellings, walks

    public int told(int some) {
        if (!isGroup(some)) {
            return refuseBad(BAD);
        }
        law.look();
        return law.isAllTold(some) ? 1 : 0;
    }

    public int place(int person, int some) {
        if (!now.isPerson(person) || !isGroup(some)) {
            return refuseBad(BAD);
        }
        return nthSquare(law.squaresWhere(Law.ALL_TOLD, person, some), 0, NONE);
    }

    public int winds(int some) {
        if (!isGroup(some)) {
            return refuseBad(BAD);
        }
        return law.windsWhereTold(some);
    }

    public int walk(int person, int square, int speak, int i) {
        if (!now.isPerson(person) || !now.isSquare(square) || !isGroup(speak) || i < NONE) {
            return refuseBad(OTHER_BAD);
        }
        long lawful = law.squaresWhere(Law.LAWFUL, person, speak);
        return paths.walkTo(now.squareOf(person), square, lawful, i);
    }

    public int parade(int person, int what) {
        if (!now.isPerson(person) || !isWithin(what, BY_EYE, BY_EAR)) {
            return refuseBad(BAD);
        }
        long allowed = law.squaresWhere(what == BY_EYE ? Law.ANYWHERE : Law.UNSEEN, person, 0);
        return paths.paradeSteps(person, what, allowed);
    }

    public int lesson(int person, int some) {
        if (!now.isPerson(person) || !isGroup(some) || isIn(some, person)) {
            return refuseBad(BAD);
        }
        law.look();
        return law.moments(person, some);
    }

    public int speakers() {
        law.look();
        return law.speakerCount();
    }

    public int best(int what) {
        if (!isWithin(what, HEDGE, FOUNTAIN)) {
            return refuseBad(BAD);
        }
        return law.bestSquare(what);
    }

    public int worth(int person, int kind) {
        if (!now.isPerson(person) || !isWithin(kind, 0, MOST_KIND)) {
            return refuseBad(OTHER_BAD);
        }
        return law.gainByKind(person, kind);
    }

    public int spots(int person, int i) {
        if (!now.isPerson(person) || i < NONE) {
            return refuseBad(OTHER_BAD);
        }
        long squares = law.squaresWhere(Law.AS_REPORTED, person, 0);
        return i == NONE ? Long.bitCount(squares) : nthSquare(squares, i, NOT_SO_MANY);
    }

    // ---- what there is

    public int image(int i) {
        if (!isWithin(i, 0, images.length - 1)) {
            return refuseBad(BAD);
        }
        Garden image = images[i];
        if (image == null) {
            image = new Garden();
            images[i] = image;
        }
        image.copyFrom(now);
        return 1;
    }

    public int from(int i) {
        if (!isWithin(i, 0, images.length - 1)) {
            return refuseBad(BAD);
        }
        Garden image = images[i];
        if (image == null) {
            return refuseNo(NO);
        }
        now.copyFrom(image);
        return 1;
    }

    public int status(int what) {
        switch (what) {
            case 0: return bads;
            case 1: return nos;
            case 2: return fulls;
            default: return refuseBad(-1);
        }
    }

    public int count(int what) {
        int many = howMany(what);
        return many == NONE ? refuseBad(BAD) : many;
    }

    public long digest() {
        long h = 743;
        for (int what = 0; what <= 6; what++) {
            h = 31 * h + howMany(what);
        }
        return now.digestAfter(h);
    }

    private int howMany(int what) {
        switch (what) {
            case 0: return now.people;
            case 1: return Long.bitCount(now.hedges);
            case 2: return Long.bitCount(now.fountains);
            case 3: return now.tellings;
            case 4: return now.reports;
            case 5: return plan.length;
            case 6: return now.squareCount();
            default: return NONE;
        }
    }

    private int refuseBad(int answer) {
        bads++;
        return answer;
    }

    private int refuseNo(int answer) {
        nos++;
        return answer;
    }

    private int refuseFull() {
        fulls++;
        return FULL;
    }

    private boolean isPairOfTwo(int a, int b) {
        return now.isPerson(a) && now.isPerson(b) && a != b;
    }

    private boolean isGroup(int bits) {
        return isWithin(bits, 0, now.everybody());
    }

    private static boolean isWithin(int v, int least, int most) {
        return v >= least && v <= most;
    }

    private static boolean isIn(int bits, int person) {
        return (bits >> person & 1) == 1;
    }

    private static boolean isOn(long squares, int square) {
        return (squares >> square & 1L) == 1L;
    }

    private static int nthSquare(long squares, int n, int otherwise) {
        int before = 0;
        for (int s = 0; s < MOST_SQUARES; s++) {
            if (isOn(squares, s)) {
                if (before == n) {
                    return s;
                }
                before++;
            }
        }
        return otherwise;
    }

    /** All that an image keeps. */
    private static final class Garden {
        int wide;
        int high;
        int drown;
        int wind;
        long hedges;
        long fountains;
        int people;
        int tellings;
        int reports;
        final int[] kinds = new int[MOST_PEOPLE];
        final int[] squares = new int[MOST_PEOPLE];
        final int[] voices = new int[MOST_PEOPLE];
        final int[] tellers = new int[MOST_TELLINGS];
        final int[] listeners = new int[MOST_TELLINGS];
        final int[] witnesses = new int[MOST_REPORTS];
        final int[] claims = new int[MOST_REPORTS];

        Garden() {
            wide = MOST_SIDE;
            high = MOST_SIDE;
            drown = 1;
        }

        void layOut(int w, int h) {
            wide = w;
            high = h;
            drown = 1;
            wind = 0;
            hedges = 0;
            fountains = 0;
            people = 0;
            tellings = 0;
            reports = 0;
        }

        void copyFrom(Garden other) {
            wide = other.wide;
            high = other.high;
            drown = other.drown;
            wind = other.wind;
            hedges = other.hedges;
            fountains = other.fountains;
            people = other.people;
            tellings = other.tellings;
            reports = other.reports;
            System.arraycopy(other.kinds, 0, kinds, 0, MOST_PEOPLE);
            System.arraycopy(other.squares, 0, squares, 0, MOST_PEOPLE);
            System.arraycopy(other.voices, 0, voices, 0, MOST_PEOPLE);
            System.arraycopy(other.tellers, 0, tellers, 0, MOST_TELLINGS);
            System.arraycopy(other.listeners, 0, listeners, 0, MOST_TELLINGS);
            System.arraycopy(other.witnesses, 0, witnesses, 0, MOST_REPORTS);
            System.arraycopy(other.claims, 0, claims, 0, MOST_REPORTS);
        }

        int squareCount() {
            return wide * high;
        }

        boolean isSquare(int q) {
            return q >= 0 && q < squareCount();
        }

        boolean isPerson(int p) {
            return p >= 0 && p < people && p < MOST_PEOPLE;
        }

        int everybody() {
            return (1 << people) - 1;
        }

        int xOf(int q) {
            return wide > 0 ? q % wide : 0;
        }

        int yOf(int q) {
            return wide > 0 ? q / wide : 0;
        }

        int kindOf(int p) {
            return isPerson(p) ? kinds[p] : 0;
        }

        int squareOf(int p) {
            return isPerson(p) ? squares[p] : 0;
        }

        int voiceOf(int p) {
            return isPerson(p) ? voices[p] : 0;
        }

        void stand(int p, int q) {
            if (isPerson(p)) {
                squares[p] = q;
            }
        }

        void become(int p, int kind) {
            if (isPerson(p)) {
                kinds[p] = kind;
            }
        }

        boolean has(int what, int q) {
            return isOn(what == HEDGE ? hedges : fountains, q);
        }

        void turn(int what, int q) {
            if (what == HEDGE) {
                hedges ^= 1L << q;
            } else {
                fountains ^= 1L << q;
            }
        }

        boolean isTaken(int q) {
            for (int p = 0; p < people && p < MOST_PEOPLE; p++) {
                if (squares[p] == q) {
                    return true;
                }
            }
            return false;
        }

        boolean isFree(int q) {
            return !has(HEDGE, q) && !isTaken(q);
        }

        int addPerson(int kind, int q, int voice) {
            if (people < 0 || people >= MOST_PEOPLE) {
                return NONE;
            }
            kinds[people] = kind;
            squares[people] = q;
            voices[people] = voice;
            return people++;
        }

        int addTelling(int a, int b) {
            if (tellings < 0 || tellings >= MOST_TELLINGS) {
                return NONE;
            }
            tellers[tellings] = a;
            listeners[tellings] = b;
            return tellings++;
        }

        int addReport(int by, int what) {
            if (reports < 0 || reports >= MOST_REPORTS) {
                return NONE;
            }
            witnesses[reports] = by;
            claims[reports] = what;
            return reports++;
        }

        int yardsOf(int p, int q) {
            return Math.abs(xOf(p) - xOf(q)) + Math.abs(yOf(p) - yOf(q));
        }

        /** Looks at the box that p and q span alone: the line goes through no square outside it. */
        boolean isClear(int p, int q) {
            int lastX = Math.max(xOf(p), xOf(q));
            int lastY = Math.max(yOf(p), yOf(q));
            for (int y = Math.min(yOf(p), yOf(q)); y <= lastY; y++) {
                for (int x = Math.min(xOf(p), xOf(q)); x <= lastX; x++) {
                    int s = y * wide + x;
                    if (s != p && s != q && has(HEDGE, s) && isCut(p, q, x, y)) {
                        return false;
                    }
                }
            }
            return true;
        }

        /**
         * Whether the line from p's middle to q's goes through the inside of the square at x, y in their box.
         * It does if corners are on both sides of it: in units of the line's length, a corner is half the
         * spread at most nearer to the line, or beyond it, than the square's middle.
         */
        private boolean isCut(int p, int q, int x, int y) {
            int dx = xOf(q) - xOf(p);
            int dy = yOf(q) - yOf(p);
            int middle = dx * (y - yOf(p)) - dy * (x - xOf(p));
            int spread = Math.abs(dx) + Math.abs(dy);
            return 2 * Math.abs(middle) < spread;
        }

        long drownedSquares() {
            long drowned = 0;
            for (int f = 0; f < squareCount(); f++) {
                for (int q = 0; q < squareCount() && has(FOUNTAIN, f); q++) {
                    if (yardsOf(q, f) <= drown) {
                        drowned |= 1L << q;
                    }
                }
            }
            return drowned;
        }

        boolean reaches(int speaker, int hearer, long drowned) {
            int from = squareOf(speaker);
            int to = squareOf(hearer);
            int yards = yardsOf(from, to);
            if (isOn(drowned, from) || isOn(drowned, to)) {
                return yards <= 1 && voiceOf(speaker) >= 1;
            }
            return yards <= voiceOf(speaker) + wind * Integer.compare(xOf(to), xOf(from));
        }

        long digestAfter(long h) {
            h = 31 * h + wide;
            h = 31 * h + drown;
            h = 31 * h + wind;
            for (int p = 0; p < people && p < MOST_PEOPLE; p++) {
                h = 31 * h + kinds[p];
                h = 31 * h + squares[p];
                h = 31 * h + voices[p];
            }
            for (int q = 0; q < squareCount(); q++) {
                h = 31 * h + (has(HEDGE, q) ? 1 : 0);
                h = 31 * h + (has(FOUNTAIN, q) ? 1 : 0);
            }
            for (int t = 0; t < tellings && t < MOST_TELLINGS; t++) {
                h = 31 * h + tellers[t];
                h = 31 * h + listeners[t];
            }
            for (int r = 0; r < reports && r < MOST_REPORTS; r++) {
                h = 31 * h + witnesses[r];
                h = 31 * h + claims[r];
            }
            return h;
        }
    }

    /** Kind 0, above all others: what one notices of another one, and what he shows of himself. */
    private static class Person {
        boolean sees(Person other, boolean isClear, boolean sameRow) {
            return isClear && other.isShown(sameRow);
        }

        boolean hears(Person other, boolean isReached, int yards) {
            return isReached && other.isAudible();
        }

        boolean isShown(boolean sameRow) {
            return true;
        }

        boolean isAudible() {
            return true;
        }

        boolean isBoundByLaw() {
            return true;
        }
    }

    private static class Deaf extends Person {
        boolean hears(Person other, boolean isReached, int yards) {
            return false;
        }
    }

    private static final class Blind extends Person {
        boolean sees(Person other, boolean isClear, boolean sameRow) {
            return false;
        }
    }

    private static final class Screened extends Person {
        boolean isShown(boolean sameRow) {
            return !sameRow;
        }
    }

    private static final class Next extends Deaf {
        boolean hears(Person other, boolean isReached, int yards) {
            return yards == 1 && isReached && other.isAudible();
        }
    }

    private static final class Abbess extends Person {
        boolean sees(Person other, boolean isClear, boolean sameRow) {
            return true;
        }

        boolean hears(Person other, boolean isReached, int yards) {
            return true;
        }

        boolean isShown(boolean sameRow) {
            return false;
        }

        boolean isAudible() {
            return false;
        }

        boolean isBoundByLaw() {
            return false;
        }
    }

    /** Who sees and hears whom in a garden, as look() last found it, and what follows by the law. */
    private static final class Law {
        static final int ALL_TOLD = 0, AS_REPORTED = 1, LAWFUL = 2, ANYWHERE = 3, UNSEEN = 4;

        private final Garden g;
        private final Person plain = new Person();
        private final Person[] kinds = new Person[MOST_KIND + 1];
        private final int[] seenBy = new int[MOST_PEOPLE];
        private final int[] heardBy = new int[MOST_PEOPLE];
        private final int[] seenFrom = new int[MOST_SQUARES];
        private final int[] heardFrom = new int[MOST_SQUARES];
        private int bound;
        private long drowned;

        Law(Garden garden) {
            g = garden;
            kinds[0] = plain;
            kinds[1] = new Deaf();
            kinds[2] = new Blind();
            kinds[3] = new Screened();
            kinds[4] = new Next();
            kinds[5] = new Abbess();
        }

        int whoSee(int person) {
            return person >= 0 && person < MOST_PEOPLE ? seenBy[person] : 0;
        }

        int whoHear(int person) {
            return person >= 0 && person < MOST_PEOPLE ? heardBy[person] : 0;
        }

        /** Who sees or hears him on a square that squaresWhere last tried. */
        int whoNotice(int square, int what) {
            if (square < 0 || square >= MOST_SQUARES) {
                return 0;
            }
            return what == BY_EYE ? seenFrom[square] : heardFrom[square];
        }

        void look() {
            drowned = g.drownedSquares();
            bound = 0;
            for (int a = 0; a < g.people && a < MOST_PEOPLE; a++) {
                seenBy[a] = 0;
                heardBy[a] = 0;
                if (kindOf(a).isBoundByLaw()) {
                    bound |= 1 << a;
                }
            }
            for (int a = 0; a < g.people; a++) {
                for (int b = a + 1; b < g.people; b++) {
                    lookAtPair(a, b);
                }
            }
        }

        /** Enough when he alone has gone to another square since look(). */
        private void lookAnewAt(int person) {
            for (int other = 0; other < g.people; other++) {
                if (other != person) {
                    lookAtPair(person, other);
                }
            }
        }

        private void lookAtPair(int a, int b) {
            int p = g.squareOf(a);
            int q = g.squareOf(b);
            boolean isClear = g.isClear(p, q);
            boolean sameRow = g.yOf(p) == g.yOf(q);
            int yards = g.yardsOf(p, q);
            Person one = kindOf(a);
            Person other = kindOf(b);
            mark(seenBy, b, a, one.sees(other, isClear, sameRow));
            mark(seenBy, a, b, other.sees(one, isClear, sameRow));
            mark(heardBy, b, a, one.hears(other, g.reaches(b, a, drowned), yards));
            mark(heardBy, a, b, other.hears(one, g.reaches(a, b, drowned), yards));
        }

        private Person kindOf(int p) {
            int kind = g.kindOf(p);
            return kind >= 0 && kind < kinds.length && kinds[kind] != null ? kinds[kind] : plain;
        }

        private static void mark(int[] byWhom, int of, int by, boolean is) {
            if (of >= 0 && of < byWhom.length) {
                byWhom[of] = is ? byWhom[of] | 1 << by : byWhom[of] & ~(1 << by);
            }
        }

        private boolean maySpeak(int b) {
            return (whoSee(b) & whoHear(b) & bound) == 0;
        }

        int mayMask() {
            int may = 0;
            for (int b = 0; b < g.people; b++) {
                if (maySpeak(b)) {
                    may |= 1 << b;
                }
            }
            return may;
        }

        /** 10 a and b, or NONE. */
        int firstBreach(int speak) {
            for (int a = 0; a < g.people; a++) {
                for (int b = 0; b < g.people; b++) {
                    if (isIn(speak, b) && isIn(whoSee(b) & whoHear(b) & bound, a)) {
                        return 10 * a + b;
                    }
                }
            }
            return NONE;
        }

        boolean isAllTold(int some) {
            for (int t = 0; t < g.tellings && t < MOST_TELLINGS; t++) {
                int a = g.tellers[t];
                int heard = whoHear(a);
                if (!maySpeak(a) || !isIn(heard, g.listeners[t]) || (heard & some) != 0) {
                    return false;
                }
            }
            return true;
        }

        private boolean isAsReported(int person) {
            for (int r = 0; r < g.reports && r < MOST_REPORTS; r++) {
                int by = g.witnesses[r];
                int claim = g.claims[r];
                boolean byEye = claim == SEEN || claim == NOT_SEEN;
                boolean noticed = isIn(byEye ? whoSee(person) : whoHear(person), by);
                if (by != person && noticed != (claim == SEEN || claim == HEARD)) {
                    return false;
                }
            }
            return true;
        }

        private boolean holds(int test, int person, int bits) {
            switch (test) {
                case ALL_TOLD: return isAllTold(bits);
                case AS_REPORTED: return isAsReported(person);
                case LAWFUL: return firstBreach(bits) == NONE;
                case UNSEEN: return (whoSee(person) & bound) == 0;
                default: return true;
            }
        }

        /** The squares, free or his own, for which the test holds when he stands there. */
        long squaresWhere(int test, int person, int bits) {
            int home = g.squareOf(person);
            long found = 0;
            look();
            for (int s = 0; s < g.squareCount() && s < MOST_SQUARES; s++) {
                if (s == home || g.isFree(s)) {
                    g.stand(person, s);
                    lookAnewAt(person);
                    seenFrom[s] = whoSee(person);
                    heardFrom[s] = whoHear(person);
                    if (holds(test, person, bits)) {
                        found |= 1L << s;
                    }
                }
            }
            g.stand(person, home);
            return found;
        }

        int windsWhereTold(int some) {
            int before = g.wind;
            int found = 0;
            for (int wind = -MOST_WIND; wind <= MOST_WIND; wind++) {
                g.wind = wind;
                look();
                if (isAllTold(some)) {
                    found |= 1 << (wind + MOST_WIND);
                }
            }
            g.wind = before;
            return found;
        }

        /** Each moment but the last adds one who knows, so there are no more of them than people. */
        int moments(int person, int some) {
            int pupils = g.everybody() & ~some;
            int know = 1 << person;
            for (int moment = 0; moment <= MOST_PEOPLE; moment++) {
                if ((pupils & ~know) == 0) {
                    return moment;
                }
                know |= hearersOf(know, some);
            }
            return NONE;
        }

        private int hearersOf(int know, int some) {
            int hearers = 0;
            for (int b = 0; b < g.people; b++) {
                if (isIn(know, b) && maySpeak(b) && (whoHear(b) & some) == 0) {
                    hearers |= whoHear(b);
                }
            }
            return hearers;
        }

        int speakerCount() {
            int speakers = 0;
            for (int b = 0; b < g.people; b++) {
                if (maySpeak(b) && whoHear(b) != 0) {
                    speakers++;
                }
            }
            return speakers;
        }

        int bestSquare(int what) {
            look();
            int most = speakerCount();
            int best = NONE;
            for (int s = 0; s < g.squareCount(); s++) {
                if (g.isFree(s) && !g.has(what, s)) {
                    g.turn(what, s);
                    look();
                    g.turn(what, s);
                    if (speakerCount() > most) {
                        most = speakerCount();
                        best = s;
                    }
                }
            }
            return best;
        }

        int gainByKind(int person, int kind) {
            int before = g.kindOf(person);
            look();
            int speakers = speakerCount();
            g.become(person, kind);
            look();
            g.become(person, before);
            return speakerCount() - speakers;
        }
    }

    /** Walks of one through the garden, step by step. */
    private static final class Paths {
        private static final int GROUPS = 32, STATES = MOST_SQUARES * GROUPS;

        private final Garden g;
        private final Law law;
        private final int[] far = new int[MOST_SQUARES];
        private final int[] steps = new int[STATES];
        private final int[] queue = new int[STATES];

        Paths(Garden garden, Law itsLaw) {
            g = garden;
            law = itsLaw;
        }

        int walkTo(int home, int goal, long lawful, int i) {
            measure(goal, lawful);
            int fewest = farOf(home);
            if (fewest == NONE || i == NONE) {
                return fewest;
            }
            return i > fewest ? NOT_SO_MANY : follow(home, i);
        }

        private int farOf(int square) {
            return square >= 0 && square < far.length ? far[square] : NONE;
        }

        /** The square beside one, directions rising by its number; NONE outside the garden. */
        private int beside(int square, int direction) {
            int x = g.xOf(square);
            switch (direction) {
                case 0: return square >= g.wide ? square - g.wide : NONE;
                case 1: return x > 0 ? square - 1 : NONE;
                case 2: return x < g.wide - 1 ? square + 1 : NONE;
                default: return square + g.wide < g.squareCount() ? square + g.wide : NONE;
            }
        }

        /** How far each square is from the goal, over those allowed alone. */
        private void measure(int goal, long allowed) {
            for (int s = 0; s < far.length; s++) {
                far[s] = NONE;
            }
            if (goal < 0 || goal >= far.length || !isOn(allowed, goal)) {
                return;
            }
            far[goal] = 0;
            queue[0] = goal;
            int waiting = 1;
            for (int head = 0; head < waiting && head < queue.length; head++) {
                int s = queue[head];
                for (int direction = 0; direction < 4; direction++) {
                    int t = beside(s, direction);
                    if (t >= 0 && t < far.length && far[t] == NONE && isOn(allowed, t) && waiting < queue.length) {
                        far[t] = farOf(s) + 1;
                        queue[waiting++] = t;
                    }
                }
            }
        }

        private int follow(int home, int i) {
            int at = home;
            for (int k = 0; k < i && k < MOST_SQUARES; k++) {
                at = nearer(at);
            }
            return at;
        }

        private int nearer(int square) {
            for (int direction = 0; direction < 4; direction++) {
                int t = beside(square, direction);
                if (t != NONE && farOf(t) != NONE && farOf(t) < farOf(square)) {
                    return t;
                }
            }
            return square;
        }

        /** A state is a square and the group that has noticed him on the way there, as squaresWhere found. */
        int paradeSteps(int person, int what, long allowed) {
            int home = g.squareOf(person);
            int all = g.everybody() & ~(1 << person);
            for (int state = 0; state < STATES; state++) {
                steps[state] = NONE;
            }
            int waiting = reach(home, 0, what, allowed, 0, 0);
            for (int head = 0; head < waiting && head < queue.length; head++) {
                int state = queue[head];
                int group = state & GROUPS - 1;
                int taken = state >= 0 && state < STATES ? steps[state] : NONE;
                if (group == all) {
                    return taken;
                }
                for (int direction = 0; direction < 4; direction++) {
                    int t = beside(state / GROUPS, direction);
                    waiting = reach(t, group, what, allowed, taken + 1, waiting);
                }
            }
            return NONE;
        }

        /** Puts a state that is new into the queue; answers how many are in it then. */
        private int reach(int square, int group, int what, long allowed, int taken, int waiting) {
            if (square == NONE || !isOn(allowed, square)) {
                return waiting;
            }
            int state = square * GROUPS + (group | law.whoNotice(square, what));
            if (state < 0 || state >= STATES || steps[state] != NONE || waiting < 0 || waiting >= STATES) {
                return waiting;
            }
            steps[state] = taken;
            queue[waiting] = state;
            return waiting + 1;
        }
    }

    /** The text, and how a garden is laid out by it. */
    private static final class Plan {
        private static final int END = 0, WORD = 1, NUMBER = 2, MINUS = 3, STOP = 4, STRANGE = 5;
        private static final int GARDEN = 0, HEDGES = 1, FOUNTAINS = 2, DROWN = 3, WIND = 4, PERSON = 5, TELL = 6;
        private static final int WORDS = 7;

        private final byte[] bytes = new byte[MOST_BYTES];
        int length;
        private int next;
        private int sort;
        private int start;
        private int value;
        private int fault;

        boolean append(long v, int n) {
            if (n > MOST_BYTES - length) {
                return false;
            }
            for (int k = n - 1; k >= 0; k--) {
                if (length >= 0 && length < bytes.length) {
                    bytes[length++] = (byte) (v >> 8 * k);
                }
            }
            return true;
        }

        /** The fault's place, or NONE; a garden with a fault is half laid out. */
        int layInto(Garden g) {
            next = 0;
            fault = NONE;
            takeToken();
            if (sort != WORD || wordOfToken() != GARDEN) {
                return start;
            }
            layGarden(g);
            for (int items = 1; items <= MOST_BYTES && fault == NONE; items++) {
                takeToken();
                if (sort == END) {
                    return NONE;
                }
                layItem(g, sort == WORD ? wordOfToken() : NONE);
            }
            return fault;
        }

        private void layItem(Garden g, int word) {
            switch (word) {
                case HEDGES: layHedge(g); break;
                case FOUNTAINS: layFountain(g); break;
                case DROWN: layDrown(g); break;
                case WIND: layWind(g); break;
                case PERSON: layPerson(g); break;
                case TELL: layTelling(g); break;
                default: refuseToken(); break;
            }
        }

        private void layGarden(Garden g) {
            int w = numberWithin(LEAST_SIDE, MOST_SIDE);
            int h = numberWithin(LEAST_SIDE, MOST_SIDE);
            if (isEnded()) {
                g.layOut(w, h);
            }
        }

        private void layHedge(Garden g) {
            int q = numberWithin(0, g.squareCount() - 1);
            if (fault == NONE && !g.isFree(q)) {
                refuseToken();
            }
            if (isEnded()) {
                g.turn(HEDGE, q);
            }
        }

        private void layFountain(Garden g) {
            int q = numberWithin(0, g.squareCount() - 1);
            if (isEnded() && !g.has(FOUNTAIN, q)) {
                g.turn(FOUNTAIN, q);
            }
        }

        private void layDrown(Garden g) {
            int n = numberWithin(0, MOST_DROWN);
            if (isEnded()) {
                g.drown = n;
            }
        }

        private void layWind(Garden g) {
            int before = next;
            takeToken();
            boolean below = sort == MINUS;
            if (!below) {
                next = before;
            }
            int n = numberWithin(below ? 1 : 0, MOST_WIND);
            if (isEnded()) {
                g.wind = below ? -n : n;
            }
        }

        private void layPerson(Garden g) {
            if (g.people >= MOST_PEOPLE) {
                refuseToken();
            }
            int kind = numberWithin(0, MOST_KIND);
            int q = numberWithin(0, g.squareCount() - 1);
            if (fault == NONE && !g.isFree(q)) {
                refuseToken();
            }
            int voice = numberWithin(0, MOST_VOICE);
            if (isEnded()) {
                g.addPerson(kind, q, voice);
            }
        }

        private void layTelling(Garden g) {
            if (g.tellings >= MOST_TELLINGS) {
                refuseToken();
            }
            int a = numberWithin(0, g.people - 1);
            int b = numberWithin(0, g.people - 1);
            if (fault == NONE && a == b) {
                refuseToken();
            }
            if (isEnded()) {
                g.addTelling(a, b);
            }
        }

        /** The token taken last is the fault, if there is none ahead of it. */
        private void refuseToken() {
            if (fault == NONE) {
                fault = start;
            }
        }

        private int numberWithin(int least, int most) {
            if (fault != NONE) {
                return NONE;
            }
            takeToken();
            if (sort != NUMBER || value < least || value > most) {
                refuseToken();
            }
            return value;
        }

        private boolean isEnded() {
            if (fault != NONE) {
                return false;
            }
            takeToken();
            if (sort != STOP) {
                refuseToken();
            }
            return fault == NONE;
        }

        private int byteAt(int place) {
            return place >= 0 && place < length && place < bytes.length ? bytes[place] & 255 : NONE;
        }

        private static boolean isLetter(int c) {
            return c >= 'a' && c <= 'z';
        }

        private static boolean isFigure(int c) {
            return c >= '0' && c <= '9';
        }

        /** At the text's end the token is empty and starts at its length. */
        private void takeToken() {
            while (next < length && byteAt(next) == ' ') {
                next++;
            }
            start = next;
            value = NONE;
            int c = byteAt(next);
            if (c == NONE) {
                sort = END;
            } else if (isLetter(c)) {
                sort = WORD;
                takeLetters();
            } else if (isFigure(c)) {
                sort = NUMBER;
                takeFigures();
            } else {
                sort = c == '-' ? MINUS : c == ';' ? STOP : STRANGE;
                next++;
            }
        }

        private void takeLetters() {
            while (next < length && isLetter(byteAt(next))) {
                next++;
            }
        }

        /** A number with a third figure has no value, so it can stand nowhere. */
        private void takeFigures() {
            int sum = 0;
            while (next < length && isFigure(byteAt(next))) {
                sum = next - start < 2 ? 10 * sum + byteAt(next) - '0' : NONE;
                next++;
            }
            value = sum;
        }

        private int wordOfToken() {
            for (int word = 0; word < WORDS; word++) {
                if (isSpelled(wordNumbered(word))) {
                    return word;
                }
            }
            return NONE;
        }

        private boolean isSpelled(String word) {
            if (next - start != word.length()) {
                return false;
            }
            for (int k = 0; k < word.length(); k++) {
                if (byteAt(start + k) != word.charAt(k)) {
                    return false;
                }
            }
            return true;
        }

        private static String wordNumbered(int word) {
            switch (word) {
                case GARDEN: return "garden";
                case HEDGES: return "hedge";
                case FOUNTAINS: return "fountain";
                case DROWN: return "drown";
                case WIND: return "wind";
                case PERSON: return "person";
                case TELL: return "tell";
                default: return "";
            }
        }
    }
}
