/** For each promise what is due, worked out by hand from the document: ordinary calls, edges, wrong numbers. */
public final class PromisesTest {
    private static final int[] FAR = {Integer.MIN_VALUE, -3, -2, 1000, Integer.MAX_VALUE};
    private static int wrong;

    private static void due(int promise, String call, long got, long want) {
        if (got != want) {
            wrong++;
            System.out.println("promise " + promise + ": " + call + " answered " + got + ", due is " + want);
        }
    }

    public static void main(String[] args) {
        newObject();
        garden();
        set();
        put();
        person();
        move();
        tell();
        report();
        clears();
        type();
        readOrdinary();
        readFaults();
        readFaultsOfPeople();
        clear();
        kinds();
        abbess();
        reach();
        water();
        where();
        may();
        judge();
        told();
        placeAndWinds();
        walk();
        walkOnBothWays();
        paradeSeen();
        paradeHeard();
        lesson();
        speakersAndBest();
        worth();
        spots();
        images();
        status();
        count();
        digest();
        System.out.println(wrong == 0 ? "PromisesTest: as due" : "PromisesTest: " + wrong + " wrong");
        System.exit(wrong == 0 ? 0 : 1);
    }

    private static int typeText(HeardSeen x, String text) {
        x.wipe();
        int length = 0;
        for (int k = 0; k < text.length(); k++) {
            length = x.type(text.charAt(k), 1);
        }
        return length;
    }

    private static HeardSeen laid(String plan) {
        HeardSeen x = new HeardSeen();
        typeText(x, plan);
        int people = x.read();
        if (people < 0) {
            wrong++;
            System.out.println("a plan of the test's own has a fault: " + plan + " " + people);
        }
        x.wipe();
        return x;
    }

    private static long digestOf(int... values) {
        long h = 743;
        for (int v : values) {
            h = 31 * h + v;
        }
        return h;
    }

    private static void newObject() {
        HeardSeen x = new HeardSeen();
        for (int what = 0; what < 6; what++) {
            due(1, "count(" + what + ")", x.count(what), 0);
        }
        due(1, "count(6)", x.count(6), 36);
        int[] values = new int[10 + 72];
        values[6] = 36;
        values[7] = 6;
        values[8] = 1;
        due(1, "digest()", x.digest(), digestOf(values));
        due(1, "may()", x.may(), 0);
        due(1, "speakers()", x.speakers(), 0);
        due(1, "told(0)", x.told(0), 1);
        due(1, "status(0)", x.status(0), 0);
        due(1, "status(1)", x.status(1), 0);
        due(1, "status(2)", x.status(2), 0);
        due(1, "put(0, 1)", x.put(0, 1), 1);
        due(1, "put(1, 0)", x.put(1, 0), 0);
        due(1, "from(0)", x.from(0), HeardSeen.NO);
    }

    private static void garden() {
        for (int w = 0; w <= 8; w++) {
            for (int h = 0; h <= 8; h++) {
                boolean fits = w >= 2 && w <= 6 && h >= 2 && h <= 6;
                due(2, "garden(" + w + ", " + h + ")", new HeardSeen().garden(w, h), fits ? w * h : HeardSeen.BAD);
            }
        }
        HeardSeen x = laid("garden 4 3;hedge 1;fountain 2;drown 3;wind 1;person 0 5 5;person 0 6 6;tell 0 1;");
        x.report(0, 0);
        x.type('x', 1);
        long before = x.digest();
        for (int far : FAR) {
            due(2, "garden(" + far + ", 3)", x.garden(far, 3), HeardSeen.BAD);
            due(2, "garden(3, " + far + ")", x.garden(3, far), HeardSeen.BAD);
        }
        due(2, "digest() after BAD", x.digest(), before);
        due(2, "garden(2, 3)", x.garden(2, 3), 6);
        due(2, "digest() of an empty garden", x.digest(),
            digestOf(0, 0, 0, 0, 0, 1, 6, 2, 1, 0, 0, 0, 0, 0, 0, 0, 0, 0, 0, 0, 0, 0));
        due(2, "where(0)", x.where(0), HeardSeen.BAD);
    }

    private static void set() {
        HeardSeen x = laid("garden 3 2;person 0 4 4;");
        due(3, "set(0, 0, true)", x.set(0, 0, true), 1);
        due(3, "set(0, 0, true) again", x.set(0, 0, true), HeardSeen.NO);
        due(3, "set(1, 0, true) on a hedge", x.set(1, 0, true), 1);
        due(3, "set(1, 0, true) again", x.set(1, 0, true), HeardSeen.NO);
        due(3, "set(1, 4, true) under one", x.set(1, 4, true), 1);
        due(3, "set(0, 4, true) under one", x.set(0, 4, true), HeardSeen.NO);
        due(3, "set(0, 4, false)", x.set(0, 4, false), HeardSeen.NO);
        due(3, "count(1)", x.count(1), 1);
        due(3, "count(2)", x.count(2), 2);
        due(3, "set(0, 0, false)", x.set(0, 0, false), 1);
        due(3, "set(1, 4, false)", x.set(1, 4, false), 1);
        due(3, "set(1, 4, false) again", x.set(1, 4, false), HeardSeen.NO);
        due(3, "count(1)", x.count(1), 0);
        due(3, "count(2)", x.count(2), 1);
        due(3, "set(0, 5, true)", x.set(0, 5, true), 1);
        due(3, "set(0, 6, true)", x.set(0, 6, true), HeardSeen.BAD);
        due(3, "set(0, -1, true)", x.set(0, -1, true), HeardSeen.BAD);
        due(3, "set(2, 0, true)", x.set(2, 0, true), HeardSeen.BAD);
        due(3, "set(-1, 0, true)", x.set(-1, 0, true), HeardSeen.BAD);
        for (int far : FAR) {
            due(3, "set(0, " + far + ", false)", x.set(0, far, false), HeardSeen.BAD);
            due(3, "set(" + far + ", 0, false)", x.set(far, 0, false), HeardSeen.BAD);
        }
    }

    private static void put() {
        HeardSeen x = new HeardSeen();
        int before = 1;
        for (int v = -2; v <= 6; v++) {
            boolean fits = v >= 0 && v <= 4;
            due(4, "put(0, " + v + ")", x.put(0, v), fits ? before : -10);
            before = fits ? v : before;
        }
        before = 0;
        for (int v = -3; v <= 3; v++) {
            boolean fits = v >= -1 && v <= 1;
            due(4, "put(1, " + v + ")", x.put(1, v), fits ? before : -10);
            before = fits ? v : before;
        }
        due(4, "put(1, 0)", x.put(1, 0), 1);
        due(4, "put(0, 0)", x.put(0, 0), 4);
        due(4, "put(2, 0)", x.put(2, 0), -10);
        due(4, "put(-1, 0)", x.put(-1, 0), -10);
        due(4, "status(0)", x.status(0), 10);
    }

    private static void person() {
        HeardSeen x = new HeardSeen();
        x.set(0, 3, true);
        due(5, "person(6, 0, 0)", x.person(6, 0, 0), HeardSeen.BAD);
        due(5, "person(-1, 0, 0)", x.person(-1, 0, 0), HeardSeen.BAD);
        due(5, "person(0, 36, 0)", x.person(0, 36, 0), HeardSeen.BAD);
        due(5, "person(0, -1, 0)", x.person(0, -1, 0), HeardSeen.BAD);
        due(5, "person(0, 0, 10)", x.person(0, 0, 10), HeardSeen.BAD);
        due(5, "person(0, 0, -1)", x.person(0, 0, -1), HeardSeen.BAD);
        due(5, "person(0, 3, 0) on a hedge", x.person(0, 3, 0), HeardSeen.NO);
        x.set(1, 0, true);
        for (int p = 0; p < 5; p++) {
            due(5, "person(" + (p + 1) + ", " + p * 7 + ", 9)", x.person(p + 1, p * 7, 9), p);
            due(5, "person(0, " + p * 7 + ", 0) where one is", x.person(0, p * 7, 0), HeardSeen.NO);
        }
        due(5, "person(0, 35, 0), the 6th", x.person(0, 35, 0), HeardSeen.FULL);
        due(5, "person(0, 3, 0): NO ahead of FULL", x.person(0, 3, 0), HeardSeen.NO);
        due(5, "person(0, 3, 10): BAD ahead of both", x.person(0, 3, 10), HeardSeen.BAD);
        due(5, "count(0)", x.count(0), 5);
    }

    private static void move() {
        HeardSeen x = laid("garden 3 3;hedge 4;person 0 0 1;person 0 8 1;");
        due(6, "move(0, 7)", x.move(0, 7), 0);
        due(6, "where(0)", x.where(0), 7);
        due(6, "move(0, 7), his own", x.move(0, 7), 7);
        due(6, "move(0, 8), where one is", x.move(0, 8), -20);
        due(6, "move(0, 4), a hedge", x.move(0, 4), -20);
        due(6, "move(1, 0), free again", x.move(1, 0), 8);
        due(6, "move(0, 9)", x.move(0, 9), -10);
        due(6, "move(0, -1)", x.move(0, -1), -10);
        due(6, "move(2, 1)", x.move(2, 1), -10);
        due(6, "move(-1, 1)", x.move(-1, 1), -10);
        due(6, "where(0)", x.where(0), 7);
        due(6, "status(0)", x.status(0), 4);
        due(6, "status(1)", x.status(1), 2);
    }

    private static void tell() {
        HeardSeen x = laid("garden 3 3;person 0 0 1;person 0 8 1;");
        due(7, "tell(0, 0)", x.tell(0, 0), HeardSeen.BAD);
        due(7, "tell(0, 2)", x.tell(0, 2), HeardSeen.BAD);
        due(7, "tell(2, 0)", x.tell(2, 0), HeardSeen.BAD);
        due(7, "tell(-1, 0)", x.tell(-1, 0), HeardSeen.BAD);
        due(7, "tell(0, -1)", x.tell(0, -1), HeardSeen.BAD);
        for (int t = 0; t < 6; t++) {
            due(7, "tell number " + t, x.tell(t % 2, 1 - t % 2), t);
        }
        due(7, "tell(0, 1), the 7th", x.tell(0, 1), HeardSeen.FULL);
        due(7, "tell(1, 1): BAD ahead of FULL", x.tell(1, 1), HeardSeen.BAD);
        due(7, "count(3)", x.count(3), 6);
    }

    private static void report() {
        HeardSeen x = laid("garden 3 3;person 0 0 1;person 0 8 1;");
        due(8, "report(2, 0)", x.report(2, 0), HeardSeen.BAD);
        due(8, "report(-1, 0)", x.report(-1, 0), HeardSeen.BAD);
        due(8, "report(0, 4)", x.report(0, 4), HeardSeen.BAD);
        due(8, "report(0, -1)", x.report(0, -1), HeardSeen.BAD);
        for (int r = 0; r < 8; r++) {
            due(8, "report number " + r, x.report(r % 2, r % 4), r);
        }
        due(8, "report(0, 0), the 9th", x.report(0, 0), HeardSeen.FULL);
        due(8, "report(0, 4): BAD ahead of FULL", x.report(0, 4), HeardSeen.BAD);
        due(8, "count(4)", x.count(4), 8);
    }

    private static void clears() {
        HeardSeen x = laid("garden 3 3;person 0 0 1;person 0 8 1;tell 0 1;tell 1 0;");
        x.report(1, 1);
        x.report(0, 1);
        x.report(1, 3);
        due(9, "clears(2)", x.clears(2), HeardSeen.BAD);
        due(9, "clears(-1)", x.clears(-1), HeardSeen.BAD);
        due(9, "clears(0)", x.clears(0), 2);
        due(9, "count(3)", x.count(3), 0);
        due(9, "count(4)", x.count(4), 3);
        due(9, "clears(1)", x.clears(1), 3);
        due(9, "count(4)", x.count(4), 0);
        due(9, "clears(0)", x.clears(0), 0);
        due(9, "clears(1)", x.clears(1), 0);
        due(9, "tell(1, 0)", x.tell(1, 0), 0);
    }

    private static void type() {
        HeardSeen x = new HeardSeen();
        due(10, "type(0, 0)", x.type(0, 0), HeardSeen.BAD);
        due(10, "type(0, 9)", x.type(0, 9), HeardSeen.BAD);
        due(10, "type(0, -1)", x.type(0, -1), HeardSeen.BAD);
        due(10, "type(MIN, MIN)", x.type(Long.MIN_VALUE, Integer.MIN_VALUE), HeardSeen.BAD);
        due(10, "type: the lowest 7 of 8", x.type(0x7A67617264656E20L, 7), 7);
        due(10, "type: the highest first", x.type(0x3420353BL, 4), 11);
        due(12, "read()", x.read(), 0);
        due(12, "count(6)", x.count(6), 20);
        due(12, "count(5): the text stays", x.count(5), 11);
        due(11, "wipe()", x.wipe(), 11);
        due(11, "wipe() again", x.wipe(), 0);
        for (int n = 8; n <= 248; n += 8) {
            due(10, "type(-1, 8)", x.type(-1L, 8), n);
        }
        due(10, "type(0, 3) of 251", x.type(0, 3), HeardSeen.FULL);
        due(10, "type(0, 9): BAD ahead of FULL", x.type(0, 9), HeardSeen.BAD);
        due(10, "count(5)", x.count(5), 248);
        due(10, "type(0, 2) of 250", x.type(0, 2), 250);
        due(10, "type(0, 1) of 251", x.type(0, 1), HeardSeen.FULL);
        due(12, "read() of bytes that begin none", x.read(), -10);
        due(11, "wipe()", x.wipe(), 250);
        due(11, "count(5)", x.count(5), 0);
    }

    private static void readOrdinary() {
        HeardSeen x = new HeardSeen();
        typeText(x, "garden 2 2;");
        x.person(0, 0, 0);
        x.person(0, 1, 0);
        x.report(0, 0);
        x.put(0, 3);
        x.put(1, 1);
        x.image(0);
        due(12, "read() with a garden alone", x.read(), 0);
        due(12, "digest(): the rest as at first", x.digest(),
            digestOf(0, 0, 0, 0, 0, 11, 4, 2, 1, 0, 0, 0, 0, 0, 0, 0, 0, 0));
        due(12, "from(0): images stay", x.from(0), 1);
        due(12, "count(0)", x.count(0), 2);
        x.read();
        due(12, "image again, count(0)", x.count(0), 0);
        String plan = "  garden 2 03 ;hedge0;fountain 0;fountain 0;drown 4;drown 00;wind 1;wind -1;"
            + "person 5 01 9;person 0 2 0;tell 1 0;tell 0 1; ";
        typeText(x, plan);
        due(12, "read()", x.read(), 2);
        due(12, "digest()", x.digest(), digestOf(2, 1, 1, 2, 0, plan.length(), 6, 2, 0, -1,
            5, 1, 9, 0, 2, 0, 1, 1, 0, 0, 0, 0, 0, 0, 0, 0, 0, 0, 1, 0, 0, 1));
        typeText(x, "garden 6 6;hedge 35;wind 0;");
        due(12, "read()", x.read(), 0);
        due(12, "put(1, 1)", x.put(1, 1), 0);
        due(12, "status(0): a fault is none", x.status(0) + x.status(1) + x.status(2), 0);
    }

    private static void fault(String plan, int place) {
        HeardSeen x = laid("garden 2 2;hedge 0;person 0 1 1;person 0 2 2;tell 0 1;");
        typeText(x, plan);
        long before = x.digest();
        due(12, "read() of '" + plan + "'", x.read(), -10 - place);
        due(12, "digest() after '" + plan + "'", x.digest(), before);
        due(12, "status after '" + plan + "'", x.status(0) + x.status(1) + x.status(2), 0);
    }

    private static void readFaults() {
        fault("", 0);
        fault("   ", 3);
        fault("garden", 6);
        fault("garden 3", 8);
        fault("garden 3 ", 9);
        fault("garden 3 3", 10);
        fault("garden 3 3;hedge", 16);
        fault("garden 3 3;hedge 1", 18);
        fault("garden 3 3;wind", 15);
        fault("garden 3 3;wind -", 17);
        fault("garden 3 3;hed", 11);
        fault("gardens 3 3;", 0);
        fault("Garden 3 3;", 0);
        fault(" 3 garden;", 1);
        fault("hedge 1;garden 3 3;", 0);
        fault(";garden 3 3;", 0);
        fault("garden 3 3;;", 11);
        fault("garden 3 3;garden 3 3;", 11);
        fault("garden 1 3;", 7);
        fault("garden 3 7;", 9);
        fault("garden 3 3 3;", 11);
        fault("garden - 3 3;", 7);
        fault("garden 3,3;", 8);
        fault("garden 3 3;\thedge 1;", 11);
        fault("garden 3 3;hedge x;", 17);
        fault("garden 3 3;hedge 9;", 17);
        fault("garden 3 3;hedge 4 hedge 5;", 19);
        fault("garden 3 3;hedge 4;hedge 04;", 25);
        fault("garden 6 6;hedge 36;", 17);
        fault("garden 6 6;hedge 012;", 17);
        fault("garden 6 6;hedge 1234;", 17);
        fault("garden 3 3;fountain 9;", 20);
        fault("garden 3 3;fountain;", 19);
        fault("garden 3 3;drown 5;", 17);
        fault("garden 3 3;drown - 1;", 17);
        fault("garden 3 3;wind 2;", 16);
        fault("garden 3 3;wind - 2;", 18);
        fault("garden 3 3;wind - 0;", 18);
        fault("garden 3 3;wind - - 1;", 18);
        fault("garden 3 3;wind 1 -;", 18);
        fault("garden 3 3;storm 1;", 11);
        fault("garden 3 3;sell 0 1;", 11);
        fault("garden 3 3;hedgez 1;", 11);
        fault("garden 3 3;Hedge 1;", 11);
        fault("garden 3 3;hedge` 1;", 16);
        fault("garden 3 3;hedge{ 1;", 16);
        fault("garden 3 3;hedge /;", 17);
        fault("garden 3 3;hedge :;", 17);
        fault("garden 3 3;hedge\u00e9 1;", 16);
    }

    private static void readFaultsOfPeople() {
        fault("garden 3 3;person 6 0 0;", 18);
        fault("garden 3 3;person 0 9 0;", 20);
        fault("garden 3 3;person 0 0 10;", 22);
        fault("garden 3 3;person 0 0;", 21);
        fault("garden 3 3;hedge 2;person 0 2 10;", 28);
        fault("garden 3 3;person 0 2 0;hedge 2;", 30);
        fault("garden 3 3;person 0 2 0;person 1 2 0;", 33);
        fault("garden 3 3;tell 0 1;", 16);
        fault("garden 3 3;person 0 0 0;tell 0 0;", 31);
        fault("garden 3 3;person 0 0 0;tell 0 1;person 0 1 0;", 31);
        String five = "garden 3 3;person 0 0 0;person 0 1 0;person 0 2 0;person 0 3 0;person 0 4 0;";
        fault(five + "person 9 9 9;", five.length());
        String six = "garden 3 3;person 0 0 0;person 0 1 0;tell 0 1;tell 0 1;tell 0 1;tell 0 1;tell 0 1;tell 1 0;";
        fault(six + "tell;", six.length());
        due(12, "five people", laid(five).count(0), 5);
        due(12, "six tellings", laid(six).count(3), 6);
    }

    private static void clear() {
        HeardSeen x = laid("garden 3 3;hedge 4;");
        due(13, "clear(0, 8)", x.clear(0, 8), 0);
        due(13, "clear(8, 0)", x.clear(8, 0), 0);
        due(13, "clear(3, 5)", x.clear(3, 5), 0);
        due(13, "clear(1, 7)", x.clear(1, 7), 0);
        due(13, "clear(0, 5)", x.clear(0, 5), 0);
        due(13, "clear(0, 2)", x.clear(0, 2), 1);
        due(13, "clear(1, 5): its corner alone", x.clear(1, 5), 1);
        due(13, "clear(3, 1): its corner alone", x.clear(3, 1), 1);
        due(13, "clear(4, 0): on one of them", x.clear(4, 0), 1);
        due(13, "clear(4, 4)", x.clear(4, 4), 1);
        due(13, "clear(0, 0)", x.clear(0, 0), 1);
        x.set(0, 0, true);
        due(13, "clear(0, 4): on both", x.clear(0, 4), 1);
        due(13, "clear(0, 8)", x.clear(0, 8), 0);
        due(13, "clear(9, 0)", x.clear(9, 0), HeardSeen.BAD);
        due(13, "clear(0, 9)", x.clear(0, 9), HeardSeen.BAD);
        due(13, "clear(-1, 0)", x.clear(-1, 0), HeardSeen.BAD);
        due(13, "clear(0, -1)", x.clear(0, -1), HeardSeen.BAD);
        // From 0 to (5, 1) the line goes from row to row through the corner where x is 3.
        x.garden(6, 2);
        for (int q = 1; q < 12; q++) {
            x.set(0, q, true);
            boolean through = q == 1 || q == 2 || q == 9 || q == 10;
            due(13, "clear(0, 11) past " + q, x.clear(0, 11), through ? 0 : 1);
            x.set(0, q, false);
        }
        // From 0 to (1, 3) it goes from column to column where y is 2.
        x.garden(2, 4);
        for (int q = 1; q < 7; q++) {
            x.set(0, q, true);
            due(13, "clear(0, 7) past " + q, x.clear(0, 7), q == 2 || q == 5 ? 0 : 1);
            x.set(0, q, false);
        }
        // From 0 to (2, 1) it goes from row to row in the middle of the column between.
        x.garden(3, 2);
        for (int q = 1; q < 5; q++) {
            x.set(0, q, true);
            due(13, "clear(0, 5) past " + q, x.clear(0, 5), q == 1 || q == 4 ? 0 : 1);
            x.set(0, q, false);
        }
    }

    private static void knows(HeardSeen x, int a, int b, int sees, int hears) {
        due(14, "knows(" + a + ", " + b + ", 0)", x.knows(a, b, 0), sees);
        due(14, "knows(" + a + ", " + b + ", 1)", x.knows(a, b, 1), hears);
    }

    private static void kinds() {
        // 0 1 2 3 4 in one row, 0 PERSON, 1 DEAF, 2 BLIND, 3 SCREENED, 4 NEXT, all loud.
        HeardSeen x = laid("garden 5 2;person 0 0 9;person 1 1 9;person 2 2 9;person 3 3 9;person 4 4 9;");
        knows(x, 0, 1, 1, 1);
        knows(x, 0, 4, 1, 1);
        knows(x, 0, 3, 0, 1);
        knows(x, 1, 0, 1, 0);
        knows(x, 1, 2, 1, 0);
        knows(x, 2, 0, 0, 1);
        knows(x, 2, 1, 0, 1);
        knows(x, 3, 0, 1, 1);
        knows(x, 3, 4, 1, 1);
        knows(x, 4, 0, 1, 0);
        knows(x, 4, 3, 0, 1);
        x.move(3, 8);
        knows(x, 0, 3, 1, 1);
        knows(x, 4, 3, 1, 0);
        x.move(3, 9);
        knows(x, 4, 3, 1, 1);
        due(14, "knows(0, 0, 0)", x.knows(0, 0, 0), HeardSeen.BAD);
        due(14, "knows(0, 5, 0)", x.knows(0, 5, 0), HeardSeen.BAD);
        due(14, "knows(5, 0, 0)", x.knows(5, 0, 0), HeardSeen.BAD);
        due(14, "knows(-1, 0, 0)", x.knows(-1, 0, 0), HeardSeen.BAD);
        due(14, "knows(0, -1, 0)", x.knows(0, -1, 0), HeardSeen.BAD);
        due(14, "knows(0, 1, 2)", x.knows(0, 1, 2), HeardSeen.BAD);
        due(14, "knows(0, 1, -1)", x.knows(0, 1, -1), HeardSeen.BAD);
        // A NEXT one hears by REACH: a voice of 0 goes 0 yards.
        x = laid("garden 3 2;person 4 0 9;person 0 1 0;");
        knows(x, 0, 1, 1, 0);
        knows(x, 1, 0, 1, 1);
    }

    private static void abbess() {
        HeardSeen x = laid("garden 3 3;hedge 1;person 5 0 9;person 3 2 0;person 5 8 9;person 0 3 9;person 4 4 9;");
        knows(x, 0, 1, 1, 1);
        knows(x, 0, 2, 1, 1);
        knows(x, 2, 0, 1, 1);
        knows(x, 1, 0, 0, 0);
        knows(x, 3, 0, 0, 0);
        knows(x, 4, 0, 0, 0);
        knows(x, 4, 2, 0, 0);
        knows(x, 3, 4, 1, 1);
        due(16, "may(): of 3 and 4 each sees and hears the other", x.may(), 7);
    }

    private static void reach() {
        HeardSeen x = laid("garden 6 6;person 0 14 3;person 0 17 2;");
        knows(x, 1, 0, 1, 1);
        knows(x, 0, 1, 1, 0);
        x.put(1, 1);
        knows(x, 1, 0, 1, 1);
        knows(x, 0, 1, 1, 0);
        x.put(1, -1);
        knows(x, 1, 0, 1, 0);
        knows(x, 0, 1, 1, 1);
        x.move(1, 32);
        knows(x, 1, 0, 1, 1);
        knows(x, 0, 1, 1, 0);
        x.move(1, 2);
        knows(x, 0, 1, 1, 1);
        x.put(1, 1);
        knows(x, 0, 1, 1, 1);
        // Voice 0 goes a yard with the wind, none without.
        x = laid("garden 2 2;person 0 0 0;person 0 1 0;");
        knows(x, 1, 0, 1, 0);
        x.put(1, 1);
        knows(x, 1, 0, 1, 1);
        knows(x, 0, 1, 1, 0);
        x.put(1, -1);
        knows(x, 0, 1, 1, 1);
    }

    private static void water() {
        HeardSeen x = laid("garden 6 2;fountain 0;person 0 1 9;person 0 3 9;person 0 4 1;drown 0;");
        knows(x, 1, 0, 1, 1);
        x.put(0, 1);
        knows(x, 1, 0, 1, 0);
        knows(x, 0, 1, 1, 0);
        knows(x, 2, 1, 1, 1);
        knows(x, 1, 2, 1, 1);
        x.put(1, 1);
        knows(x, 1, 2, 1, 0);
        x.put(0, 3);
        knows(x, 1, 2, 1, 1);
        x.put(1, 0);
        x.move(0, 5);
        knows(x, 0, 1, 1, 0);
        knows(x, 0, 2, 1, 1);
        // Drowned and with a voice of 0 nobody is heard, the wind or not.
        x = laid("garden 2 2;fountain 3;person 0 0 0;person 0 1 1;wind 1;");
        knows(x, 1, 0, 1, 0);
        knows(x, 0, 1, 1, 1);
        x.set(1, 3, false);
        knows(x, 1, 0, 1, 1);
        knows(x, 0, 1, 1, 0);
    }

    private static void where() {
        HeardSeen x = laid("garden 3 3;person 0 7 1;");
        due(15, "where(0)", x.where(0), 7);
        due(15, "where(1)", x.where(1), HeardSeen.BAD);
        for (int far : FAR) {
            due(15, "where(" + far + ")", x.where(far), HeardSeen.BAD);
        }
        due(15, "status(0)", x.status(0), 6);
    }

    private static void may() {
        HeardSeen x = laid("garden 3 3;person 0 0 9;person 0 2 0;person 2 8 9;");
        due(16, "may(): 1 sees and hears 0, 0 and 1 see and hear 2", x.may(), 2);
        x.set(0, 1, true);
        due(16, "may(): past a hedge", x.may(), 3);
        x.set(0, 4, true);
        x.set(0, 5, true);
        due(16, "may(): past three", x.may(), 7);
    }

    private static void judge() {
        HeardSeen x = laid("garden 3 3;person 0 0 1;person 0 2 9;person 5 6 9;person 0 8 9;");
        due(17, "judge(0)", x.judge(0), HeardSeen.NONE);
        due(17, "judge(1): nobody hears 0", x.judge(1), HeardSeen.NONE);
        due(17, "judge(2): 0 breaks it", x.judge(2), 1);
        due(17, "judge(8)", x.judge(8), 3);
        due(17, "judge(10): the first b", x.judge(10), 1);
        due(17, "judge(15)", x.judge(15), 1);
        x.set(0, 1, true);
        due(17, "judge(2): past a hedge 3 does", x.judge(2), 31);
        due(17, "judge(10): the first a", x.judge(10), 3);
        due(17, "judge(4): nobody hears an abbess", x.judge(4), HeardSeen.NONE);
        due(17, "judge(16)", x.judge(16), HeardSeen.BAD);
        due(17, "judge(-1)", x.judge(-1), HeardSeen.BAD);
        for (int far : FAR) {
            due(17, "judge(" + far + ")", x.judge(far), HeardSeen.BAD);
        }
    }

    private static void told() {
        // 0 is heard by 1, 2, 3 (the blind ones), seen by none of them.
        HeardSeen x = laid("garden 6 2;person 0 0 3;person 2 1 0;person 2 3 0;person 2 6 1;tell 0 2;");
        due(18, "told(0)", x.told(0), 1);
        due(18, "told(1): but himself", x.told(1), 1);
        due(18, "told(2): 1 hears it", x.told(2), 0);
        due(18, "told(4): b itself", x.told(4), 0);
        x.move(1, 5);
        due(18, "told(2): too far away now", x.told(2), 1);
        due(18, "told(10): 3 hears it", x.told(10), 0);
        x.tell(3, 0);
        due(18, "told(0): 0 sees and hears 3", x.told(0), 0);
        x.clears(0);
        due(18, "told(15): nothing to tell", x.told(15), 1);
        x.tell(0, 1);
        due(18, "told(0): 1 does not hear", x.told(0), 0);
        due(18, "told(16)", x.told(16), HeardSeen.BAD);
        due(18, "told(-1)", x.told(-1), HeardSeen.BAD);
        // An abbess hears all; another one's MAY does not matter.
        x = laid("garden 2 2;person 0 0 0;person 5 3 9;person 0 1 9;tell 0 1;");
        due(18, "told(0)", x.told(0), 1);
        due(18, "told(4): 2 hears nobody of voice 0", x.told(4), 1);
        due(18, "told(2)", x.told(2), 0);
    }

    private static void placeAndWinds() {
        HeardSeen x = laid("garden 6 2;hedge 0;person 0 5 2;person 2 1 0;person 2 3 0;tell 0 1;");
        due(18, "told(0)", x.told(0), 0);
        due(19, "place(0, 0): 0 is a hedge", x.place(0, 0), 2);
        due(19, "place(0, 4): 2 must not hear", x.place(0, 4), 6);
        due(19, "place(0, 2)", x.place(0, 2), HeardSeen.NONE);
        due(19, "place(1, 0): 1 comes nearer", x.place(1, 0), 4);
        due(19, "place(2, 0): 2 can not help", x.place(2, 0), HeardSeen.NONE);
        due(19, "where(0)", x.where(0), 5);
        x.move(0, 2);
        due(19, "place(0, 0): his own", x.place(0, 0), 2);
        due(19, "place(3, 0)", x.place(3, 0), HeardSeen.BAD);
        due(19, "place(-1, 0)", x.place(-1, 0), HeardSeen.BAD);
        due(19, "place(0, 8)", x.place(0, 8), HeardSeen.BAD);
        due(19, "place(0, -1)", x.place(0, -1), HeardSeen.BAD);
        x.move(0, 4);
        due(20, "winds(0): 3 yards with a voice of 2", x.winds(0), 1);
        x.move(0, 9);
        due(20, "winds(4): 2 is of the same x", x.winds(4), 0);
        x.move(0, 8);
        due(20, "winds(0): 2 yards", x.winds(0), 3);
        due(20, "winds(4): by the wind to 1 alone 2 does not hear", x.winds(4), 1);
        due(20, "put(1, 0): the wind is as it was", x.put(1, 0), 0);
        due(20, "winds(8)", x.winds(8), HeardSeen.BAD);
        due(20, "winds(-1)", x.winds(-1), HeardSeen.BAD);
        x.clears(0);
        due(20, "winds(7)", x.winds(7), 7);
    }

    private static void walk() {
        HeardSeen x = laid("garden 3 3;hedge 4;person 0 0 9;");
        int[] way = {0, 1, 2, 5, 8};
        due(21, "walk(0, 8, 0, -1)", x.walk(0, 8, 0, -1), 4);
        for (int i = 0; i < 5; i++) {
            due(21, "walk(0, 8, 1, " + i + ")", x.walk(0, 8, 1, i), way[i]);
        }
        due(21, "walk(0, 8, 0, 5)", x.walk(0, 8, 0, 5), -5);
        due(21, "walk(0, 8, 0, MAX)", x.walk(0, 8, 0, Integer.MAX_VALUE), -5);
        due(21, "walk(0, 0, 0, -1)", x.walk(0, 0, 0, -1), 0);
        due(21, "walk(0, 0, 0, 0)", x.walk(0, 0, 0, 0), 0);
        due(21, "walk(0, 0, 0, 1)", x.walk(0, 0, 0, 1), -5);
        due(21, "walk(0, 4, 0, -1): a hedge", x.walk(0, 4, 0, -1), HeardSeen.NONE);
        x.set(0, 1, true);
        due(21, "walk(0, 2, 0, 2)", x.walk(0, 2, 0, 2), 6);
        x.set(0, 3, true);
        due(21, "walk(0, 2, 0, 9): none, not -5", x.walk(0, 2, 0, 9), HeardSeen.NONE);
        due(21, "walk(1, 0, 0, 0)", x.walk(1, 0, 0, 0), -10);
        due(21, "walk(-1, 0, 0, 0)", x.walk(-1, 0, 0, 0), -10);
        due(21, "walk(0, 9, 0, 0)", x.walk(0, 9, 0, 0), -10);
        due(21, "walk(0, -1, 0, 0)", x.walk(0, -1, 0, 0), -10);
        due(21, "walk(0, 0, 2, 0)", x.walk(0, 0, 2, 0), -10);
        due(21, "walk(0, 0, -1, 0)", x.walk(0, 0, -1, 0), -10);
        due(21, "walk(0, 0, 0, -2)", x.walk(0, 0, 0, -2), -10);
        due(21, "status(0)", x.status(0), 7);
        due(21, "where(0)", x.where(0), 0);
        x = laid("garden 3 3;hedge 4;person 0 8 9;");
        for (int i = 0; i < 5; i++) {
            due(21, "walk(0, 0, 0, " + i + "): back by 5, not by 7", x.walk(0, 0, 0, i), way[4 - i]);
        }
        // No step from the end of a row to the next row's beginning.
        x = laid("garden 3 2;hedge 4;hedge 1;person 0 2 9;");
        due(21, "walk(0, 3, 0, -1)", x.walk(0, 3, 0, -1), HeardSeen.NONE);
    }

    private static void walkOnBothWays() {
        // 1 hears 0 within 2 yards: speaking he can not go along the row of 1, nor start there.
        HeardSeen x = laid("garden 5 5;person 0 0 2;person 0 2 0;");
        due(21, "walk(0, 4, 0, -1): around 1", x.walk(0, 4, 0, -1), 6);
        due(21, "walk(0, 4, 1, -1): heard and seen at once", x.walk(0, 4, 1, -1), HeardSeen.NONE);
        x.move(0, 5);
        due(21, "walk(0, 9, 0, 1)", x.walk(0, 9, 0, 1), 6);
        due(21, "walk(0, 9, 1, -1)", x.walk(0, 9, 1, -1), 8);
        due(21, "walk(0, 9, 1, 1)", x.walk(0, 9, 1, 1), 10);
        due(21, "walk(0, 9, 1, 2)", x.walk(0, 9, 1, 2), 11);
        due(21, "walk(0, 9, 1, 3)", x.walk(0, 9, 1, 3), 16);
        due(21, "walk(0, 4, 1, -1): the last square", x.walk(0, 4, 1, -1), HeardSeen.NONE);
        due(21, "walk(0, 2, 0, -1): one is there", x.walk(0, 2, 0, -1), HeardSeen.NONE);
        due(21, "walk(0, 9, 2, -1): 1 speaks, nobody hears", x.walk(0, 9, 2, -1), 4);
        x.garden(5, 5);
        x.person(0, 5, 0);
        x.person(0, 2, 2);
        due(21, "walk(0, 9, 2, 2): he keeps away from who speaks", x.walk(0, 9, 2, 2), 11);
        x.person(0, 4, 0);
        due(21, "walk(0, 9, 2, -1): another one breaks it", x.walk(0, 9, 2, -1), HeardSeen.NONE);
    }

    private static void paradeSeen() {
        HeardSeen x = laid("garden 5 2;person 0 0 0;");
        due(22, "parade(0, 0) of one alone", x.parade(0, 0), 0);
        due(22, "parade(0, 1) of one alone", x.parade(0, 1), 0);
        x.person(0, 4, 0);
        due(22, "parade(0, 0): seen at once", x.parade(0, 0), 0);
        x.set(0, 1, true);
        due(22, "parade(0, 0): a step down", x.parade(0, 0), 1);
        x.set(0, 3, true);
        x.set(0, 8, true);
        due(22, "parade(0, 0): walled off", x.parade(0, 0), HeardSeen.NONE);
        due(22, "parade(1, 0)", x.parade(1, 0), HeardSeen.NONE);
        x = laid("garden 6 2;hedge 1;hedge 4;hedge 7;person 0 3 0;person 0 0 0;person 0 5 0;");
        due(22, "parade(0, 0): 0 is walled off", x.parade(0, 0), HeardSeen.NONE);
        x.set(0, 7, false);
        // 2 sees him on 10 first, past a corner, 1 on 7: by 9, 10, 9, 8, 7.
        due(22, "parade(0, 0)", x.parade(0, 0), 5);
        x.person(5, 11, 0);
        due(22, "parade(0, 0): an abbess sees all", x.parade(0, 0), 5);
        x.person(2, 6, 0);
        due(22, "parade(0, 0): a blind one never", x.parade(0, 0), HeardSeen.NONE);
        due(22, "parade(3, 0): an abbess is seen by none", x.parade(3, 0), HeardSeen.NONE);
        due(22, "parade(5, 0)", x.parade(5, 0), HeardSeen.BAD);
        due(22, "parade(-1, 0)", x.parade(-1, 0), HeardSeen.BAD);
        due(22, "parade(0, 2)", x.parade(0, 2), HeardSeen.BAD);
        due(22, "parade(0, -1)", x.parade(0, -1), HeardSeen.BAD);
    }

    private static void paradeHeard() {
        HeardSeen x = laid("garden 6 2;person 0 0 2;person 2 5 0;");
        due(22, "parade(0, 1): 2 yards are enough", x.parade(0, 1), 3);
        x.person(5, 11, 0);
        due(22, "parade(0, 1): an abbess may see him", x.parade(0, 1), 3);
        x.person(2, 6, 0);
        due(22, "parade(0, 1): another one hears him at first", x.parade(0, 1), 3);
        x.move(1, 7);
        x.move(3, 5);
        due(22, "parade(0, 1): the same two told otherwise", x.parade(0, 1), 3);
        x.person(1, 10, 0);
        due(22, "parade(0, 1): a deaf one sees him", x.parade(0, 1), HeardSeen.NONE);
        // A screened one goes along the row of who would see him elsewhere.
        x = laid("garden 6 2;person 3 0 2;person 0 5 0;");
        due(22, "parade(0, 1): unseen in the same row", x.parade(0, 1), 3);
        x.move(1, 11);
        due(22, "parade(0, 1): seen on the first square", x.parade(0, 1), HeardSeen.NONE);
        x.put(1, 1);
        x.move(1, 5);
        due(22, "parade(0, 1): with the wind", x.parade(0, 1), 2);
    }

    private static void lesson() {
        // All blind, so all may speak; each hears the next one alone.
        HeardSeen x = laid("garden 6 2;person 2 0 1;person 2 1 1;person 2 2 1;person 2 3 1;");
        due(23, "lesson(0, 0)", x.lesson(0, 0), 3);
        due(23, "lesson(1, 0)", x.lesson(1, 0), 2);
        due(23, "lesson(3, 0)", x.lesson(3, 0), 3);
        due(23, "lesson(0, 8): 2 must be still, but knows", x.lesson(0, 8), 2);
        due(23, "lesson(0, 4): 1 must be still", x.lesson(0, 4), HeardSeen.NONE);
        due(23, "lesson(0, 14): nobody is left", x.lesson(0, 14), 0);
        due(23, "lesson(0, 2)", x.lesson(0, 2), HeardSeen.NONE);
        due(23, "lesson(0, 1): from one of some", x.lesson(0, 1), HeardSeen.BAD);
        due(23, "lesson(0, 16)", x.lesson(0, 16), HeardSeen.BAD);
        due(23, "lesson(0, -2)", x.lesson(0, -2), HeardSeen.BAD);
        due(23, "lesson(4, 0)", x.lesson(4, 0), HeardSeen.BAD);
        due(23, "lesson(-1, 0)", x.lesson(-1, 0), HeardSeen.BAD);
        x.person(5, 11, 0);
        due(23, "lesson(0, 0): an abbess at once", x.lesson(0, 0), 3);
        due(23, "lesson(0, 16): she hears all", x.lesson(0, 16), HeardSeen.NONE);
        due(23, "lesson(4, 0): nobody hears her", x.lesson(4, 0), HeardSeen.NONE);
        x = laid("garden 6 2;person 2 0 1;person 0 1 1;person 2 2 1;");
        due(23, "lesson(0, 0): 1 sees and hears 0", x.lesson(0, 0), HeardSeen.NONE);
        due(23, "lesson(1, 0): 0 and 2 are blind", x.lesson(1, 0), 1);
        due(23, "lesson alone", laid("garden 2 2;person 0 0 0;").lesson(0, 0), 0);
    }

    private static void speakersAndBest() {
        HeardSeen x = laid("garden 3 2;person 0 0 2;person 0 2 2;");
        due(24, "speakers()", x.speakers(), 0);
        due(25, "best(0): between them", x.best(0), 1);
        due(25, "best(1): drowned is not heard", x.best(1), HeardSeen.NONE);
        x.set(0, 1, true);
        due(24, "speakers()", x.speakers(), 2);
        due(25, "best(0): no more than now", x.best(0), HeardSeen.NONE);
        x = laid("garden 6 2;person 0 0 9;person 2 1 0;person 0 3 0;");
        due(24, "speakers(): 2 sees and hears 0", x.speakers(), 0);
        due(25, "best(0): 2 does not see him", x.best(0), 2);
        due(25, "best(1): 2 does not hear him, on a free square alone", x.best(1), 2);
        x.set(1, 2, true);
        x.put(0, 0);
        due(24, "speakers(): the water is too far away", x.speakers(), 0);
        due(25, "best(1): no free square drowns one", x.best(1), HeardSeen.NONE);
        x.put(0, 1);
        due(24, "speakers(): drowned", x.speakers(), 1);
        x.set(1, 2, false);
        x.put(0, 2);
        due(25, "best(1)", x.best(1), 2);
        x.move(0, 2);
        x.move(2, 5);
        due(25, "best(1): on the first square", x.best(1), 0);
        x.move(0, 0);
        x.move(2, 3);
        x.set(0, 2, true);
        x.set(0, 2, false);
        due(25, "count(1): all is as it was", x.count(1), 0);
        due(25, "count(2): all is as it was", x.count(2), 0);
        due(25, "best(2)", x.best(2), HeardSeen.BAD);
        due(25, "best(-1)", x.best(-1), HeardSeen.BAD);
    }

    private static void worth() {
        HeardSeen x = laid("garden 6 2;person 0 0 1;person 0 1 1;");
        due(26, "worth(0, 0)", x.worth(0, 0), 0);
        due(26, "worth(0, 1): 0 hears 1 no more, who is heard by none", x.worth(0, 1), 0);
        due(26, "worth(0, 2): 1 may speak and is heard", x.worth(0, 2), 1);
        due(26, "worth(0, 3): 0 may speak and is heard", x.worth(0, 3), 1);
        due(26, "worth(0, 4)", x.worth(0, 4), 0);
        due(26, "worth(0, 5): she hears 1", x.worth(0, 5), 1);
        due(26, "worth(0, 6)", x.worth(0, 6), -10);
        due(26, "worth(0, -1)", x.worth(0, -1), -10);
        due(26, "worth(2, 0)", x.worth(2, 0), -10);
        due(26, "worth(-1, 0)", x.worth(-1, 0), -10);
        due(26, "status(0)", x.status(0), 4);
        x = laid("garden 6 2;person 2 0 1;person 2 1 1;");
        due(24, "speakers()", x.speakers(), 2);
        due(26, "worth(0, 0): 1 may speak no more", x.worth(0, 0), -1);
        due(26, "worth(0, 1)", x.worth(0, 1), -1);
        due(26, "worth(0, 5): nobody hears her", x.worth(0, 5), -1);
        due(24, "speakers(): as before", x.speakers(), 2);
    }

    private static void spots() {
        HeardSeen x = laid("garden 4 2;hedge 2;person 0 4 2;person 0 1 0;");
        due(27, "spots(0, -1): all free ones and his", x.spots(0, -1), 6);
        int[] free = {0, 3, 4, 5, 6, 7};
        for (int i = 0; i < 6; i++) {
            due(27, "spots(0, " + i + ")", x.spots(0, i), free[i]);
        }
        due(27, "spots(0, 6)", x.spots(0, 6), -5);
        due(27, "spots(0, MAX)", x.spots(0, Integer.MAX_VALUE), -5);
        x.report(0, 1);
        due(27, "spots(0, -1): his own reports are none", x.spots(0, -1), 6);
        x.report(1, 0);
        due(27, "spots(0, -1): seen from 1", x.spots(0, -1), 4);
        due(27, "spots(0, 3): past the corner", x.spots(0, 3), 6);
        x.report(1, 3);
        due(27, "spots(0, -1): not heard by 1", x.spots(0, -1), 0);
        x.put(1, 1);
        due(27, "spots(0, -1): against the wind", x.spots(0, -1), 1);
        due(27, "spots(0, 0)", x.spots(0, 0), 6);
        x.put(1, 0);
        x.clears(1);
        x.report(1, 1);
        due(27, "spots(0, -1): not seen", x.spots(0, -1), 2);
        due(27, "spots(0, 0)", x.spots(0, 0), 3);
        due(27, "spots(0, 1)", x.spots(0, 1), 7);
        x.report(1, 2);
        due(27, "spots(0, -1): heard, not seen", x.spots(0, -1), 1);
        due(27, "spots(0, 0)", x.spots(0, 0), 3);
        due(27, "where(0)", x.where(0), 4);
        due(27, "spots(0, -2)", x.spots(0, -2), -10);
        due(27, "spots(2, 0)", x.spots(2, 0), -10);
        due(27, "spots(-1, 0)", x.spots(-1, 0), -10);
        due(27, "status(0)", x.status(0), 3);
    }

    private static void images() {
        HeardSeen x = laid("garden 4 3;hedge 1;fountain 2;drown 3;wind 1;person 0 5 5;person 1 6 6;tell 0 1;");
        x.report(1, 3);
        long first = x.digest();
        due(29, "from(0): none", x.from(0), HeardSeen.NO);
        due(28, "image(0)", x.image(0), 1);
        due(29, "from(1): none", x.from(1), HeardSeen.NO);
        due(28, "image(2)", x.image(2), HeardSeen.BAD);
        due(28, "image(-1)", x.image(-1), HeardSeen.BAD);
        due(29, "from(2)", x.from(2), HeardSeen.BAD);
        due(29, "from(-1)", x.from(-1), HeardSeen.BAD);
        x.move(0, 11);
        x.set(0, 5, true);
        x.set(1, 2, false);
        x.put(0, 0);
        x.put(1, 0);
        x.tell(1, 0);
        x.clears(1);
        x.report(0, 2);
        long second = x.digest();
        due(28, "image(1)", x.image(1), 1);
        x.garden(2, 2);
        due(29, "from(0)", x.from(0), 1);
        due(29, "digest()", x.digest(), first);
        x.move(1, 0);
        x.person(2, 3, 3);
        due(29, "from(1)", x.from(1), 1);
        due(29, "digest()", x.digest(), second);
        due(29, "from(0) again", x.from(0), 1);
        due(29, "digest()", x.digest(), first);
        x.type('x', 1);
        x.from(1);
        due(29, "count(5): the text is not kept", x.count(5), 1);
        due(29, "status(0): nor is the status", x.status(0), 4);
        due(29, "status(1)", x.status(1), 2);
        due(28, "image(0): over the first", x.image(0), 1);
        x.garden(3, 3);
        x.from(0);
        x.wipe();
        due(28, "digest()", x.digest(), second);
    }

    private static void status() {
        HeardSeen x = new HeardSeen();
        due(30, "status(3)", x.status(3), -1);
        due(30, "status(-1)", x.status(-1), -1);
        due(30, "status(0)", x.status(0), 2);
        x.put(5, 5);
        x.person(0, 36, 0);
        x.count(7);
        due(30, "status(0)", x.status(0), 5);
        countEachRefused();
        due(30, "status(1)", x.status(1), 0);
        x.set(1, 0, false);
        x.person(0, 0, 0);
        x.person(0, 0, 0);
        x.person(0, 1, 0);
        x.move(0, 1);
        due(30, "status(1)", x.status(1), 3);
        due(30, "status(2)", x.status(2), 0);
        for (int k = 0; k < 7; k++) {
            x.tell(0, 1);
        }
        for (int k = 0; k < 10; k++) {
            x.report(0, 0);
        }
        due(30, "status(2)", x.status(2), 3);
        x.walk(0, 2, 0, 30);
        x.walk(0, 1, 0, 0);
        x.spots(0, 30);
        x.read();
        x.place(0, 3);
        due(30, "status(0): none of these is BAD", x.status(0), 5);
        due(30, "status(1)", x.status(1), 3);
        due(30, "status(2)", x.status(2), 3);
    }

    private static void countEachRefused() {
        HeardSeen x = laid("garden 2 2;person 0 0 0;person 0 3 0;");
        long[] answers = {x.garden(1, 1), x.set(2, 0, true), x.person(9, 0, 0), x.tell(0, 0), x.report(0, 9),
            x.clears(9), x.type(0, 9), x.clear(0, 9), x.knows(0, 0, 0), x.where(9), x.judge(9), x.told(9),
            x.place(9, 0), x.winds(9), x.parade(9, 0), x.lesson(0, 1), x.best(9), x.image(9), x.from(9), x.count(9)};
        for (int k = 0; k < answers.length; k++) {
            due(30, "BAD number " + k, answers[k], HeardSeen.BAD);
        }
        long[] others = {x.put(9, 0), x.move(9, 0), x.walk(9, 0, 0, 0), x.worth(9, 0), x.spots(9, 0)};
        for (int k = 0; k < others.length; k++) {
            due(30, "-10 number " + k, others[k], -10);
        }
        due(30, "status(0) of all these", x.status(0), answers.length + others.length);
        x.set(0, 0, true);
        x.set(1, 0, false);
        x.person(0, 3, 0);
        x.move(0, 3);
        x.from(1);
        due(30, "status(1)", x.status(1), 5);
        for (int k = 0; k < 252 / 8; k++) {
            x.type(0, 8);
        }
        due(30, "status(2)", x.status(2), 0);
        x.type(0, 3);
        due(30, "status(2)", x.status(2), 1);
        x.garden(3, 3);
        for (int q = 0; q < 6; q++) {
            x.person(0, q, 0);
        }
        due(30, "status(2)", x.status(2), 2);
        due(30, "status(0) as before", x.status(0), answers.length + others.length);
        due(30, "status(1) as before", x.status(1), 5);
    }

    private static void count() {
        HeardSeen x = laid("garden 4 3;hedge 1;hedge 3;hedge 0;fountain 2;fountain 1;person 0 5 5;person 1 6 6;"
            + "person 1 7 6;person 1 8 6;tell 0 1;tell 0 2;tell 0 3;tell 1 0;tell 1 2;");
        x.report(0, 0);
        typeText(x, "seven..");
        int[] want = {4, 3, 2, 5, 1, 7, 12};
        for (int what = 0; what < 7; what++) {
            due(31, "count(" + what + ")", x.count(what), want[what]);
        }
        due(31, "count(7)", x.count(7), HeardSeen.BAD);
        due(31, "count(-1)", x.count(-1), HeardSeen.BAD);
        for (int far : FAR) {
            due(31, "count(" + far + ")", x.count(far), HeardSeen.BAD);
        }
        due(31, "status(0)", x.status(0), 7);
    }

    private static void digest() {
        HeardSeen x = laid("garden 3 2;hedge 1;hedge 5;fountain 1;fountain 2;drown 4;wind - 1;"
            + "person 3 2 9;person 1 4 7;tell 1 0;tell 0 1;");
        x.report(1, 3);
        x.report(0, 2);
        typeText(x, "ab");
        due(32, "digest()", x.digest(), digestOf(2, 2, 2, 2, 2, 2, 6, 3, 4, -1, 3, 2, 9, 1, 4, 7,
            0, 0, 1, 1, 0, 1, 0, 0, 0, 0, 1, 0, 1, 0, 0, 1, 1, 3, 0, 2));
        due(32, "digest() again", x.digest(), x.digest());
    }
}
