import java.util.function.Supplier;
import java.util.function.ToLongFunction;

/** The bounds of tellings, places, walks, lessons, and of what helps. */
final class WalksBoundaries {
    private static final String CHAIN = "garden 6 2;person 2 0 1;person 2 1 1;person 2 2 1;person 2 3 1;person 2 4 1;";
    private static final String LOUD = "garden 6 2;person 2 0 9;person 2 1 9;person 2 2 9;person 2 3 9;person 2 4 9;";
    private static final String FILLED = "garden 2 2;person 0 0 9;person 0 1 9;person 0 2 9;person 0 3 9;";
    private static final String WINDING = "garden 6 5;hedge 6;hedge 7;hedge 8;hedge 9;hedge 10;hedge 19;hedge 20;"
        + "hedge 21;hedge 22;hedge 23;person 0 0 1;";
    private final Sentences s;

    WalksBoundaries(Sentences s) {
        this.s = s;
    }

    void lookAtAll() {
        toldTerms();
        told();
        place();
        winds();
        walkSteps();
        walkLawful();
        walkFirst();
        walk();
        paradeSeen();
        paradeHeard();
        parade();
        lessonTerms();
        lesson();
        speakers();
        bestTerms();
        best();
        worth();
        spotsTerms();
        spots();
    }

    private static Supplier<HeardSeen> by(String plan) {
        return () -> Sentences.laid(plan);
    }

    private void ask(String plan, String call, ToLongFunction<HeardSeen> asked, long want) {
        s.asked(by(plan), call + " of '" + plan + "'", asked, want);
    }

    /** BAD by -2 with a number for one of the people who is not there. */
    private void badPeople(String name, java.util.function.ToLongBiFunction<HeardSeen, Integer> asked) {
        s.bad(HeardSeen::new, name + "(0, ..) of nobody", y -> asked.applyAsLong(y, 0));
        s.bad(Sentences::smallest, name + "(2, ..) of two", y -> asked.applyAsLong(y, 2));
        s.bad(Sentences::fullest, name + "(-1, ..)", y -> asked.applyAsLong(y, -1));
        s.bad(Sentences::fullest, name + "(5, ..)", y -> asked.applyAsLong(y, 5));
        s.bad(Sentences::fullest, name + "(32, ..)", y -> asked.applyAsLong(y, 32));
        for (int v : Sentences.FAR) {
            s.bad(Sentences::fullest, name + "(" + v + ", ..)", y -> asked.applyAsLong(y, v));
        }
    }

    private void toldTerms() {
        s.says(Sentences.TERMS, "TOLD at once, not heard by some (bits): all a of TELLINGS MAY speak, each b HEARS its "
            + "a, and none of those some HEARS any such a (but himself).");
        for (int some = 0; some < 32; some++) {
            s.due("told(" + some + ") with no TELLINGS", Sentences.laid(LOUD).told(some), 1);
        }
        for (int voice = 2; voice <= 3; voice++) {
            HeardSeen x = Sentences.laid("garden 6 2;person 0 0 " + voice + ";person 2 3 0;tell 0 1;");
            s.due("told(0) by 3 yards, VOICE " + voice, x.told(0), voice - 2);
            s.due("told(1): himself", x.told(1), voice - 2);
            s.due("told(2): b is one of some", x.told(2), 0);
        }
        // The last of six counts as the first does.
        HeardSeen x = Sentences.laid(CHAIN);
        for (int t = 0; t < 5; t++) {
            x.tell(0, 1);
        }
        s.due("told(0) by five", x.told(0), 1);
        x.tell(0, 2);
        s.due("told(0), the sixth is not heard", x.told(0), 0);
        x = Sentences.laid("garden 6 2;person 2 0 1;person 2 1 1;tell 0 1;");
        s.due("told(1)", x.told(1), 1);
        x.tell(1, 0);
        s.due("told(1): he hears the other one who tells", x.told(1), 0);
        s.due("told(0)", x.told(0), 1);
        x = Sentences.laid("garden 6 2;person 2 0 1;person 0 1 1;tell 0 1;");
        s.due("told(0): a may not speak", x.told(0), 0);
        x.person(5, 11, 0);
        x.clears(0);
        x.tell(1, 2);
        s.due("told(0): another one may not, an abbess hears", x.told(0), 1);
        s.due("told(1): 0 hears it, too", x.told(1), 0);
    }

    private void told() {
        s.says(18, "Whether all is TOLD: 1, 0.");
        s.asked(HeardSeen::new, "told(0) of nobody", y -> y.told(0), 1);
        ask("garden 6 2;person 0 0 3;person 2 3 0;tell 0 1;", "told(0)", y -> y.told(0), 1);
        ask("garden 6 2;person 0 0 2;person 2 3 0;tell 0 1;", "told(0)", y -> y.told(0), 0);
        ask(LOUD + "tell 4 3;", "told(16)", y -> y.told(16), 1);
        ask(LOUD + "tell 4 3;", "told(31)", y -> y.told(31), 0);
        s.says(18, "BAD.");
        s.group("told", HeardSeen::told);
    }

    private void place() {
        s.says(Sentences.TERMS, "PLACE of one: the least SQUARE that is free (or his) from which, he standing there, "
            + "all is TOLD so; none.");
        String end = "person 0 0 1;person 2 34 0;tell 0 1;";
        ask("garden 6 6;" + end, "place(0, 0)", y -> y.place(0, 0), 28);
        ask("garden 6 6;hedge 28;" + end, "place(0, 0)", y -> y.place(0, 0), 33);
        ask("garden 6 6;hedge 28;person 0 0 1;person 2 34 0;tell 0 1;person 2 33 0;", "place(0, 0)",
            y -> y.place(0, 0), 35);
        ask("garden 6 6;hedge 28;hedge 33;hedge 35;" + end, "place(0, 0)", y -> y.place(0, 0), HeardSeen.NONE);
        ask("garden 6 6;person 0 0 1;person 2 35 0;tell 0 1;", "place(1, 0), who hears comes", y -> y.place(1, 0), 1);
        ask("garden 6 6;person 0 0 9;person 2 1 0;person 2 2 0;tell 0 1;", "place(2, 4), who must not hear goes",
            y -> y.place(2, 4), 35);
        s.says(19, "PLACE. NONE.");
        ask("garden 2 2;person 0 0 0;person 0 3 0;", "place(0, 0), his own is the least", y -> y.place(0, 0), 0);
        ask("garden 2 2;person 0 0 0;person 0 3 0;", "place(1, 3), no TELLINGS", y -> y.place(1, 3), 1);
        for (int p = 0; p < 4; p++) {
            int one = p;
            ask(FILLED, "place(" + p + ", 0), none but his own is free", y -> y.place(one, 0), one);
        }
        ask("garden 2 2;person 0 3 0;hedge 0;hedge 1;hedge 2;", "place(0, 0)", y -> y.place(0, 0), 3);
        ask("garden 2 2;person 0 0 0;person 0 3 0;tell 0 1;", "place(0, 0)", y -> y.place(0, 0), HeardSeen.NONE);
        ask(LOUD + "tell 4 3;", "place(4, 8), heard everywhere", y -> y.place(4, 8), HeardSeen.NONE);
        s.says(19, "BAD.");
        badPeople("place", (y, p) -> y.place(p, 0));
        s.group("place(0, ..)", (y, some) -> y.place(0, some));
    }

    private void winds() {
        s.says(Sentences.TERMS, "WINDS: of -1, 0, 1 (bits 1, 2, 4) those by which all is TOLD so.");
        ask("garden 6 2;person 0 3 2;person 2 0 0;tell 0 1;", "winds(0), to the left", y -> y.winds(0), 1);
        ask("garden 6 2;person 0 2 2;person 2 0 0;person 2 4 0;tell 0 1;tell 0 2;", "winds(0), to both",
            y -> y.winds(0), 2);
        ask("garden 6 2;person 0 0 2;person 2 3 0;tell 0 1;", "winds(0), to the right", y -> y.winds(0), 4);
        ask("garden 6 2;person 0 3 3;person 2 0 0;tell 0 1;", "winds(0)", y -> y.winds(0), 3);
        ask("garden 6 2;person 0 0 3;person 2 3 0;tell 0 1;", "winds(0)", y -> y.winds(0), 6);
        ask("garden 6 2;person 0 0 1;person 2 6 0;tell 0 1;", "winds(0), the same x", y -> y.winds(0), 7);
        ask("garden 6 2;person 0 0 1;person 2 3 0;tell 0 1;", "winds(0), too far", y -> y.winds(0), 0);
        s.says(20, "WINDS, as bits.");
        s.asked(HeardSeen::new, "winds(0) of nobody", y -> y.winds(0), 7);
        for (int wind = -1; wind <= 1; wind++) {
            String blows = wind < 0 ? "wind - 1;" : "wind " + wind + ";";
            ask(LOUD + blows, "winds(31), no TELLINGS", y -> y.winds(31), 7);
            ask("garden 6 2;" + blows + "person 0 0 2;person 2 3 0;tell 0 1;", "winds(1)", y -> y.winds(1), 4);
            ask("garden 6 2;" + blows + "person 0 0 3;person 2 3 0;tell 0 1;", "winds(2)", y -> y.winds(2), 0);
        }
        s.says(20, "BAD.");
        s.group("winds", HeardSeen::winds);
    }

    private void walkSteps() {
        s.says(Sentences.TERMS, "WALK of one to a SQUARE, some speaking (bits, he too perhaps): steps to a SQUARE "
            + "beside (x or y 1 more or less), free ones alone;");
        ask("garden 3 2;hedge 1;hedge 4;person 0 2 0;", "walk(0, 3, 0, -1) from row to row", y -> y.walk(0, 3, 0, -1),
            HeardSeen.NONE);
        ask("garden 3 2;hedge 1;hedge 4;person 0 3 0;", "walk(0, 2, 0, -1) from row to row", y -> y.walk(0, 2, 0, -1),
            HeardSeen.NONE);
        ask("garden 2 2;hedge 1;hedge 2;person 0 0 0;", "walk(0, 3, 0, -1) past a corner", y -> y.walk(0, 3, 0, -1),
            HeardSeen.NONE);
        ask("garden 2 2;hedge 1;person 0 0 0;", "walk(0, 3, 0, -1)", y -> y.walk(0, 3, 0, -1), 2);
        ask("garden 2 2;hedge 1;person 0 0 0;", "walk(0, 1, 0, -1), a hedge", y -> y.walk(0, 1, 0, -1), HeardSeen.NONE);
        ask(FILLED, "walk(0, 1, 0, -1), somebody", y -> y.walk(0, 1, 0, -1), HeardSeen.NONE);
        ask(FILLED, "walk(3, 3, 0, -1), his own", y -> y.walk(3, 3, 0, -1), 0);
        ask("garden 2 3;person 0 0 0;person 2 2 0;hedge 3;", "walk(0, 4, 0, -1) past people", y -> y.walk(0, 4, 0, -1),
            HeardSeen.NONE);
        for (int w = 2; w <= 6; w++) {
            for (int h = 2; h <= 6; h++) {
                int last = w * h - 1;
                HeardSeen x = new HeardSeen();
                x.garden(w, h);
                x.person(0, 0, 0);
                s.due("walk to the last square of " + w + " by " + h, x.walk(0, last, 1, -1), w + h - 2);
                s.due("walk to the end of the first row", x.walk(0, w - 1, 0, -1), w - 1);
                s.due("walk to the first of the last row", x.walk(0, last - w + 1, 0, -1), h - 1);
            }
        }
    }

    private void walkLawful() {
        s.says(Sentences.TERMS, "on all SQUARES, the first and the last too, JUDGE tells none:");
        // 1 sees and hears him within 2 yards of 2: on 0, 1, 3, 4, 7, 8, 9, 14.
        String plan = "garden 6 3;person 0 5 2;person 0 2 0;";
        ask(plan, "walk(0, 5, 1, -1), nobody hears him there", y -> y.walk(0, 5, 1, -1), 0);
        ask(plan, "walk(0, 4, 1, -1), the last one", y -> y.walk(0, 4, 1, -1), HeardSeen.NONE);
        ask(plan, "walk(0, 4, 0, -1), still", y -> y.walk(0, 4, 0, -1), 1);
        ask(plan, "walk(0, 4, 2, -1), another one speaks", y -> y.walk(0, 4, 2, -1), 1);
        ask(plan, "walk(0, 6, 1, -1), one between", y -> y.walk(0, 6, 1, -1), HeardSeen.NONE);
        ask(plan, "walk(0, 6, 0, -1)", y -> y.walk(0, 6, 0, -1), 6);
        String heard = "garden 6 3;person 0 4 2;person 0 2 0;";
        ask(heard, "walk(0, 5, 1, -1), the first one", y -> y.walk(0, 5, 1, -1), HeardSeen.NONE);
        ask(heard, "walk(0, 4, 1, -1), the first one is the last", y -> y.walk(0, 4, 1, -1), HeardSeen.NONE);
        ask(heard, "walk(0, 4, 1, 0)", y -> y.walk(0, 4, 1, 0), HeardSeen.NONE);
        ask(heard, "walk(0, 4, 2, 0)", y -> y.walk(0, 4, 2, 0), 4);
        // Two others break it, wherever he is.
        String others = "garden 6 6;person 0 35 0;person 0 0 1;person 0 1 0;";
        ask(others, "walk(0, 35, 2, -1)", y -> y.walk(0, 35, 2, -1), HeardSeen.NONE);
        ask(others, "walk(0, 35, 7, 0)", y -> y.walk(0, 35, 7, 0), HeardSeen.NONE);
        ask(others, "walk(0, 35, 5, -1)", y -> y.walk(0, 35, 5, -1), 0);
        // An abbess does not break it.
        ask("garden 2 2;person 0 0 9;person 5 3 9;", "walk(0, 1, 3, -1)", y -> y.walk(0, 1, 3, -1), 1);
    }

    private void walkFirst() {
        s.says(Sentences.TERMS, "the fewest steps; of like ones the first by SQUARES: the i-th (0: where he stands "
            + "now); none.");
        int[][] ways = {{0, 1, 2, 3, 4, 5, 11, 17, 23, 29, 35}, {35, 29, 23, 17, 11, 5, 4, 3, 2, 1, 0},
            {5, 4, 3, 2, 1, 0, 6, 12, 18, 24, 30}, {30, 24, 18, 12, 6, 0, 1, 2, 3, 4, 5}};
        for (int[] way : ways) {
            follow("garden 6 6;person 0 " + way[0] + " 0;", way);
        }
        follow("garden 3 3;hedge 4;hedge 1;person 0 0 0;", new int[] {0, 3, 6, 7, 8});
        follow("garden 3 3;hedge 4;hedge 7;person 0 6 0;", new int[] {6, 3, 0, 1, 2, 5, 8});
        // Along all of a winding way, and no shorter one.
        follow(WINDING, new int[] {0, 1, 2, 3, 4, 5, 11, 17, 16, 15, 14, 13, 12, 18, 24, 25, 26, 27, 28, 29});
    }

    private void follow(String plan, int[] way) {
        HeardSeen x = Sentences.laid(plan);
        int goal = way[way.length - 1];
        s.due("steps of " + plan, x.walk(0, goal, 0, -1), way.length - 1);
        for (int i = 0; i < way.length; i++) {
            s.due("walk(0, " + goal + ", 0, " + i + ") of " + plan, x.walk(0, goal, 0, i), way[i]);
        }
        s.due("one too many", x.walk(0, goal, 0, way.length), -5);
        s.due("where(0)", x.where(0), way[0]);
    }

    private void walk() {
        String alone = "garden 6 6;person 0 0 0;";
        s.says(21, "WALK: steps (i = NONE), the i-th SQUARE.");
        ask(alone, "walk(0, 35, 0, -1)", y -> y.walk(0, 35, 0, -1), 10);
        ask(alone, "walk(0, 35, 1, 0)", y -> y.walk(0, 35, 1, 0), 0);
        ask(alone, "walk(0, 35, 1, 10)", y -> y.walk(0, 35, 1, 10), 35);
        s.says(21, "-5: not so many.");
        ask(alone, "walk(0, 35, 1, 11)", y -> y.walk(0, 35, 1, 11), -5);
        ask(alone, "walk(0, 0, 1, 1)", y -> y.walk(0, 0, 1, 1), -5);
        ask(alone, "walk(0, 35, 1, 36)", y -> y.walk(0, 35, 1, 36), -5);
        ask(alone, "walk(0, 35, 1, MAX)", y -> y.walk(0, 35, 1, Integer.MAX_VALUE), -5);
        s.says(21, "NONE: there is none.");
        String walled = "garden 6 6;hedge 1;hedge 6;person 0 0 0;";
        int[] places = {-1, 0, 1, 99, Integer.MAX_VALUE};
        for (int i : places) {
            ask(walled, "walk(0, 35, 0, " + i + ")", y -> y.walk(0, 35, 0, i), HeardSeen.NONE);
            ask(walled, "walk(0, 1, 0, " + i + ")", y -> y.walk(0, 1, 0, i), HeardSeen.NONE);
        }
        s.says(21, "BAD: -10.");
        int[][] wrong = {{-1, 0, 0, 0}, {5, 0, 0, 0}, {0, -1, 0, 0}, {0, 20, 0, 0}, {0, 0, -1, 0}, {0, 0, 32, 0},
            {0, 0, 0, -2}, {5, 20, 32, -2}, {32, 0, 0, -1}, {0, 0, 33, -1}, {0, 7, 0, -2}};
        for (int[] one : wrong) {
            s.ten("walk(" + one[0] + ", " + one[1] + ", " + one[2] + ", " + one[3] + ")",
                y -> y.walk(one[0], one[1], one[2], one[3]));
        }
        s.refused(HeardSeen::new, "walk(0, 0, 0, 0) of nobody", y -> y.walk(0, 0, 0, 0), -10, Sentences.BY_BAD);
        s.refused(Sentences::smallest, "walk(0, 0, 4, 0) of two", y -> y.walk(0, 0, 4, 0), -10, Sentences.BY_BAD);
        s.refused(Sentences::smallest, "walk(0, 4, 0, 0) of four squares", y -> y.walk(0, 4, 0, 0), -10,
            Sentences.BY_BAD);
        for (int v : Sentences.FAR) {
            s.ten("walk(" + v + ", 0, 0, 0)", y -> y.walk(v, 0, 0, 0));
            s.ten("walk(0, " + v + ", 0, 0)", y -> y.walk(0, v, 0, 0));
            s.ten("walk(0, 0, " + v + ", 0)", y -> y.walk(0, 0, v, 0));
            if (v < 0) {
                s.ten("walk(0, 0, 0, " + v + ")", y -> y.walk(0, 0, 0, v));
            }
        }
    }

    private void paradeSeen() {
        s.says(Sentences.TERMS, "PARADE of one: 0 SEEN: the fewest steps by which all others have seen him, each on "
            + "some SQUARE of the walk (the first, too);");
        ask("garden 2 2;person 0 0 0;", "parade(0, 0) of one alone", y -> y.parade(0, 0), 0);
        ask("garden 6 6;person 0 0 0;person 0 35 0;person 0 5 0;person 0 30 0;person 1 14 0;", "parade(0, 0) of five",
            y -> y.parade(0, 0), 0);
        ask("garden 3 2;hedge 1;person 0 0 0;person 0 2 0;", "parade(0, 0), past a corner", y -> y.parade(0, 0), 2);
        // 1 sees him on the first square alone, 2 a step further down alone.
        ask("garden 6 2;hedge 3;hedge 7;person 0 2 0;person 0 0 0;person 0 5 0;", "parade(0, 0), one on each square",
            y -> y.parade(0, 0), 1);
        // 2 sees him on 10 first, 1 on 7 then: 9, 10, 9, 8, 7.
        ask("garden 6 2;hedge 1;hedge 4;person 0 3 0;person 0 0 0;person 0 5 0;", "parade(0, 0), there and back",
            y -> y.parade(0, 0), 5);
        ask("garden 3 2;hedge 4;person 0 3 0;person 0 5 0;", "parade(0, 0), up", y -> y.parade(0, 0), 2);
        ask("garden 2 6;hedge 2;person 0 10 0;person 0 0 0;", "parade(0, 0), up a column", y -> y.parade(0, 0), 5);
        ask("garden 2 6;hedge 2;hedge 9;hedge 11;person 0 10 0;person 0 0 0;", "parade(0, 0), up, then aside",
            y -> y.parade(0, 0), 5);
        ask("garden 3 2;hedge 1;hedge 4;person 0 0 0;person 0 2 0;", "parade(0, 0), walled off", y -> y.parade(0, 0),
            HeardSeen.NONE);
        ask("garden 2 2;person 0 0 0;person 2 3 0;", "parade(0, 0), a blind one", y -> y.parade(0, 0), HeardSeen.NONE);
        ask("garden 2 2;person 3 0 0;person 0 1 0;", "parade(0, 0), screened: down a row", y -> y.parade(0, 0), 1);
        ask("garden 2 2;person 5 0 0;person 5 1 0;", "parade(0, 0), two abbesses", y -> y.parade(0, 0), 0);
        ask("garden 2 2;person 5 0 0;person 0 1 0;", "parade(0, 0), an abbess", y -> y.parade(0, 0), HeardSeen.NONE);
        paradesAlongAll();
        oneAfterAnother();
    }

    private void paradesAlongAll() {
        ask(WINDING + "person 0 29 0;", "parade(0, 0), seen in the last row alone", y -> y.parade(0, 0), 14);
        ask(WINDING + "person 2 29 0;", "parade(0, 1), heard by the next one alone", y -> y.parade(0, 1), 18);
    }

    /** One walk after another by the same object: what was found before is forgotten. */
    private void oneAfterAnother() {
        HeardSeen x = Sentences.laid("garden 6 6;hedge 1;hedge 7;hedge 13;hedge 19;hedge 25;"
            + "person 0 0 0;person 0 5 0;");
        s.due("parade(0, 0) down, then past the hedge", x.parade(0, 0), 7);
        x.set(0, 31, true);
        s.due("parade(0, 0), walled off", x.parade(0, 0), HeardSeen.NONE);
        x.set(0, 31, false);
        s.due("walk(0, 5, 0, -1)", x.walk(0, 5, 0, -1), HeardSeen.NONE);
        s.due("walk(0, 4, 0, -1)", x.walk(0, 4, 0, -1), 14);
        x.set(0, 31, true);
        s.due("walk(0, 4, 0, -1), walled off", x.walk(0, 4, 0, -1), HeardSeen.NONE);
        x.set(0, 6, true);
        s.due("parade(0, 0), walled in", x.parade(0, 0), HeardSeen.NONE);
        s.due("walk(0, 12, 0, -1), walled in", x.walk(0, 12, 0, -1), HeardSeen.NONE);
        x.garden(2, 2);
        x.person(0, 0, 0);
        x.person(2, 3, 0);
        s.due("parade(0, 0), a blind one", x.parade(0, 0), HeardSeen.NONE);
        s.due("parade(0, 1), too low a voice", x.parade(0, 1), HeardSeen.NONE);
        s.due("parade(1, 0)", x.parade(1, 0), 0);
    }

    private void paradeHeard() {
        s.says(Sentences.TERMS, "1 HEARD: by which, he speaking on all SQUARES, all others have heard him, nobody but "
            + "an ABBESS sees him on any of these. None.");
        ask("garden 2 2;person 0 0 0;", "parade(0, 1) of one alone", y -> y.parade(0, 1), 0);
        ask(LOUD, "parade(0, 1) of five", y -> y.parade(0, 1), 0);
        ask(CHAIN, "parade(0, 1): down the row beside", y -> y.parade(0, 1), 5);
        for (int voice = 0; voice <= 9; voice++) {
            int steps = voice == 0 ? HeardSeen.NONE : Math.max(0, 5 - voice);
            ask("garden 6 2;person 0 0 " + voice + ";person 2 5 0;", "parade(0, 1)", y -> y.parade(0, 1), steps);
        }
        ask("garden 6 2;person 0 0 9;person 2 5 0;person 1 11 0;", "parade(0, 1), seen by one", y -> y.parade(0, 1),
            HeardSeen.NONE);
        ask("garden 6 2;person 0 0 2;person 2 5 0;person 5 11 0;", "parade(0, 1), seen by an abbess",
            y -> y.parade(0, 1), 3);
        ask("garden 2 2;person 0 0 9;person 1 3 0;hedge 1;", "parade(0, 1), a deaf one sees him", y -> y.parade(0, 1),
            HeardSeen.NONE);
        // Unseen on the first square, but not on any on which he would be heard.
        ask("garden 6 2;hedge 1;person 0 0 4;person 0 5 0;", "parade(0, 1)", y -> y.parade(0, 1), HeardSeen.NONE);
        ask("garden 6 2;hedge 1;person 0 0 5;person 0 5 0;", "parade(0, 1)", y -> y.parade(0, 1), 0);
        // Around a hedge, out of sight all the way: 1 looks along the row.
        ask("garden 6 2;person 3 0 2;person 0 5 0;", "parade(0, 1), screened", y -> y.parade(0, 1), 3);
        ask("garden 6 2;person 3 6 2;person 0 5 0;", "parade(0, 1), seen on the first square", y -> y.parade(0, 1),
            HeardSeen.NONE);
    }

    private void parade() {
        s.says(22, "PARADE: steps. NONE.");
        for (int p = 0; p < 4; p++) {
            int one = p;
            ask(FILLED, "parade(" + p + ", 0)", y -> y.parade(one, 0), 0);
            ask(FILLED, "parade(" + p + ", 1)", y -> y.parade(one, 1), HeardSeen.NONE);
        }
        s.says(22, "BAD.");
        badPeople("parade", (y, p) -> y.parade(p, 0));
        int[] whats = {-1, 2, 3, 32};
        for (int what : whats) {
            s.bad(Sentences::fullest, "parade(0, " + what + ")", y -> y.parade(0, what));
        }
        for (int v : Sentences.FAR) {
            s.bad(Sentences::fullest, "parade(0, " + v + ")", y -> y.parade(0, v));
        }
    }

    private void lessonTerms() {
        s.says(Sentences.TERMS, "LESSON from one, not heard by some (bits): in each MOMENT all who know and MAY speak, "
            + "and are not heard by any of some, speak; who HEARS one knows from then on: the fewest MOMENTS until all "
            + "but some know; none.");
        HeardSeen x = Sentences.laid(CHAIN);
        int[] moments = {4, 3, 2, 3, 4};
        for (int p = 0; p < 5; p++) {
            s.due("lesson(" + p + ", 0) along a row", x.lesson(p, 0), moments[p]);
            s.due("lesson(" + p + ", all others)", x.lesson(p, 31 - (1 << p)), 0);
            s.due("lesson(" + p + ", 0) at once", Sentences.laid(LOUD).lesson(p, 0), 1);
        }
        s.due("lesson(0, 16): 3 is still, but knows", x.lesson(0, 16), 3);
        s.due("lesson(0, 24): 2 is still, but knows", x.lesson(0, 24), 2);
        s.due("lesson(0, 8): 4 never knows", x.lesson(0, 8), HeardSeen.NONE);
        s.due("lesson(0, 2): 0 is still", x.lesson(0, 2), HeardSeen.NONE);
        s.due("lesson(2, 1): 1 knows and is still", x.lesson(2, 1), 2);
        s.due("lesson(2, 17): 1 and 3 know at once", x.lesson(2, 17), 1);
        x.move(4, 5);
        s.due("lesson(0, 0), a gap", x.lesson(0, 0), HeardSeen.NONE);
        s.due("lesson(0, 16), but for the last one", x.lesson(0, 16), 3);
        x = Sentences.laid("garden 6 2;person 2 0 1;person 2 1 1;person 0 7 0;person 2 2 1;");
        s.due("lesson(0, 0): 1 may not speak, as 2 sees and hears it", x.lesson(0, 0), HeardSeen.NONE);
        s.due("lesson(0, 12)", x.lesson(0, 12), 1);
    }

    private void lesson() {
        s.says(23, "LESSON. NONE.");
        ask("garden 2 2;person 0 0 0;", "lesson(0, 0) alone", y -> y.lesson(0, 0), 0);
        ask(CHAIN, "lesson(4, 0)", y -> y.lesson(4, 0), 4);
        ask(CHAIN, "lesson(4, 15)", y -> y.lesson(4, 15), 0);
        ask(CHAIN, "lesson(4, 8)", y -> y.lesson(4, 8), HeardSeen.NONE);
        ask("garden 2 2;person 5 0 9;person 0 3 9;", "lesson(0, 0) from an abbess",
            y -> y.lesson(0, 0), HeardSeen.NONE);
        ask("garden 2 2;person 5 0 9;person 0 3 0;", "lesson(1, 0) to an abbess", y -> y.lesson(1, 0), 1);
        s.says(23, "BAD: from one of some, too.");
        badPeople("lesson", (y, p) -> y.lesson(p, 0));
        s.group("lesson(0, ..)", (y, some) -> y.lesson(0, some));
        for (int p = 0; p < 5; p++) {
            int one = p;
            s.bad(Sentences::fullest, "lesson(" + p + ", himself)", y -> y.lesson(one, 1 << one));
            s.bad(Sentences::fullest, "lesson(" + p + ", all)", y -> y.lesson(one, 31));
        }
    }

    private void speakers() {
        s.says(Sentences.TERMS, "SPEAKERS: how many MAY speak and are heard by somebody.");
        s.due("speakers() of nobody", new HeardSeen().speakers(), 0);
        s.due("one alone is heard by nobody", Sentences.laid("garden 2 2;person 0 0 9;").speakers(), 0);
        s.due("two who may speak, too far away",
            Sentences.laid("garden 6 6;person 0 0 9;person 0 35 9;").speakers(), 0);
        s.due("five", Sentences.laid(LOUD).speakers(), 5);
        s.due("heard by an abbess", Sentences.laid("garden 6 6;person 1 0 0;person 5 35 9;").speakers(), 1);
        s.due("two abbesses", Sentences.laid("garden 6 6;person 5 0 0;person 5 35 0;").speakers(), 2);
        s.says(24, "SPEAKERS.");
        s.asked(HeardSeen::new, "speakers() of nobody", HeardSeen::speakers, 0);
        ask(LOUD, "speakers()", HeardSeen::speakers, 5);
        ask(FILLED, "speakers()", HeardSeen::speakers, 0);
    }

    private void bestTerms() {
        s.says(Sentences.TERMS, "HEDGE, FOUNTAIN: the least free SQUARE (none of its own sort there) by which, were "
            + "there one more, SPEAKERS are most, if that is more than now; none.");
        // A hedge on 1 lets one speak, one on 34 two.
        HeardSeen x = Sentences.laid("garden 6 6;person 0 0 2;person 0 2 0;person 0 33 2;person 0 35 2;");
        s.due("best(0), the most", x.best(0), 34);
        x.set(0, 34, true);
        s.due("best(0), then the other one", x.best(0), 1);
        x.set(0, 1, true);
        s.due("best(0), no more than now", x.best(0), HeardSeen.NONE);
        s.due("best(0), the least of like ones", Sentences.laid("garden 6 2;person 0 6 9;person 0 9 9;").best(0), 7);
        s.due("best(0), the first square",
            Sentences.laid("garden 2 3;person 0 1 0;person 0 2 2;hedge 3;person 0 0 0;").best(0), HeardSeen.NONE);
        // 0 is drowned by a fountain on 0, and 2, who sees him, hears him no more.
        String plan = "garden 6 2;person 0 6 9;person 2 7 0;person 0 9 0;";
        s.due("best(1), the first square", Sentences.laid(plan).best(1), 0);
        s.due("best(1), a hedge there", Sentences.laid(plan + "hedge 0;").best(1), 3);
        s.due("best(1), somebody there", Sentences.laid(plan + "person 1 0 0;").best(1), 3);
        s.due("best(1), two of them", Sentences.laid(plan + "hedge 0;person 1 3 0;").best(1), 8);
        s.due("best(1), it is so by now", Sentences.laid(plan + "fountain 3;").best(1), HeardSeen.NONE);
        s.due("best(1), DROWN 0", Sentences.laid(plan + "drown 0;").best(1), HeardSeen.NONE);
        s.due("best(1), DROWN 0, one there", Sentences.laid(plan + "drown 0;fountain 3;").best(1), HeardSeen.NONE);
    }

    private void best() {
        s.says(25, "HEDGE (0), FOUNTAIN (1). NONE.");
        for (int what = 0; what < 2; what++) {
            int one = what;
            s.none(HeardSeen::new, "best(" + what + ") of nobody", y -> y.best(one));
            s.none(by(FILLED), "best(" + what + ") with no free square", y -> y.best(one));
            s.none(by(LOUD), "best(" + what + "), all speak", y -> y.best(one));
        }
        ask("garden 6 2;person 0 0 9;person 0 5 9;", "best(0)", y -> y.best(0), 1);
        ask("garden 6 2;person 0 6 9;person 2 7 0;person 0 9 0;", "best(0)", y -> y.best(0), 8);
        ask("garden 6 2;person 0 6 9;person 2 7 0;person 0 9 0;", "best(1)", y -> y.best(1), 0);
        s.says(25, "BAD.");
        s.bad(Sentences::fullest, "best(-1)", y -> y.best(-1));
        s.bad(Sentences::fullest, "best(2)", y -> y.best(2));
        for (int v : Sentences.FAR) {
            s.bad(Sentences::fullest, "best(" + v + ")", y -> y.best(v));
        }
    }

    private void worth() {
        s.says(Sentences.TERMS, "WORTH of a KIND for one: SPEAKERS, were he of it, less SPEAKERS.");
        int[] ofLoud = {-4, 0, 0, -4, -1, -1};
        for (int kind = 0; kind <= 5; kind++) {
            HeardSeen x = Sentences.laid(LOUD);
            s.due("worth(0, " + kind + ")", x.worth(0, kind), ofLoud[kind]);
            s.due("speakers() afterwards", x.speakers(), 5);
        }
        s.says(26, "WORTH.");
        ask("garden 6 2;person 0 0 0;", "worth(0, 5) of one alone", y -> y.worth(0, 5), 0);
        ask("garden 6 2;person 0 0 9;person 0 1 9;", "worth(1, 5)", y -> y.worth(1, 5), 1);
        ask("garden 6 2;person 2 0 9;person 2 1 9;", "worth(1, 5)", y -> y.worth(1, 5), -1);
        for (int kind = 0; kind <= 5; kind++) {
            int one = kind;
            ask("garden 6 2;person " + kind + " 0 9;person 2 1 9;", "worth(0, " + kind + "), as he is",
                y -> y.worth(0, one), 0);
        }
        s.says(26, "BAD: -10.");
        int[][] wrong = {{-1, 0}, {5, 0}, {0, -1}, {0, 6}, {5, 6}, {32, 0}, {0, 32}};
        for (int[] one : wrong) {
            s.ten("worth(" + one[0] + ", " + one[1] + ")", y -> y.worth(one[0], one[1]));
        }
        s.refused(HeardSeen::new, "worth(0, 0) of nobody", y -> y.worth(0, 0), -10, Sentences.BY_BAD);
        s.refused(Sentences::smallest, "worth(2, 0) of two", y -> y.worth(2, 0), -10, Sentences.BY_BAD);
        for (int v : Sentences.FAR) {
            s.ten("worth(" + v + ", 0)", y -> y.worth(v, 0));
            s.ten("worth(0, " + v + ")", y -> y.worth(0, v));
        }
    }

    private static HeardSeen reported(String plan, int... reports) {
        HeardSeen x = Sentences.laid(plan);
        for (int k = 0; k + 1 < reports.length; k += 2) {
            x.report(reports[k], reports[k + 1]);
        }
        return x;
    }

    private void spotsTerms() {
        s.says(Sentences.TERMS, "REPORTS 0 .. 7, as they come, of one who was somewhere: by another one: 0 seen, "
            + "1 not seen, 2 heard, 3 not heard.");
        // 1 sees all but 3 and 7 (past the corner it sees 6), hears 0 within two yards.
        String plan = "garden 4 2;hedge 2;person 0 4 2;person 0 1 0;";
        int[] many = {4, 2, 5, 1};
        for (int what = 0; what < 4; what++) {
            s.due("spots by report(1, " + what + ")", reported(plan, 1, what).spots(0, -1), many[what]);
        }
        s.due("the eighth counts", reported(plan, 1, 0, 1, 0, 1, 0, 1, 0, 1, 0, 1, 0, 1, 0, 1, 2).spots(0, -1), 4);
        s.due("the eighth counts", reported(plan, 1, 0, 1, 0, 1, 0, 1, 0, 1, 0, 1, 0, 1, 0, 1, 1).spots(0, -1), 0);
        s.due("a ninth does not", reported(plan, 1, 0, 1, 0, 1, 0, 1, 0, 1, 0, 1, 0, 1, 0, 1, 0, 1, 1).spots(0, -1), 4);
        s.says(Sentences.TERMS, "SPOTS of one: free SQUARES (or his) by which, he standing there, all REPORTS by "
            + "others are so: how many, the i-th (rising).");
        s.due("no REPORTS", reported(plan).spots(0, -1), 6);
        s.due("by 0, of 1: past two corners", reported("garden 6 2;hedge 1;hedge 6;person 0 0 0;person 0 11 0;",
            0, 0).spots(1, -1), 1);
        s.due("his own alone", reported(plan, 0, 0, 0, 1, 0, 2, 0, 3).spots(0, -1), 6);
        s.due("seen and not seen", reported(plan, 1, 0, 1, 1).spots(0, -1), 0);
        s.due("heard, not seen", reported(plan, 1, 2, 1, 1).spots(0, -1), 1);
        s.due("heard, not seen", reported(plan, 1, 2, 1, 1).spots(0, 0), 3);
        int[] want = {0, 4, 5, 6, -5};
        for (int i = 0; i < want.length; i++) {
            s.due("seen, the i-th", reported(plan, 1, 0).spots(0, i), want[i]);
        }
    }

    private void spots() {
        String alone = "garden 6 6;person 0 14 0;";
        s.says(27, "SPOTS: how many (i = NONE), the i-th (0 on).");
        ask(alone, "spots(0, -1)", y -> y.spots(0, -1), 36);
        ask(alone, "spots(0, 0)", y -> y.spots(0, 0), 0);
        ask(alone, "spots(0, 14), his own", y -> y.spots(0, 14), 14);
        ask(alone, "spots(0, 35)", y -> y.spots(0, 35), 35);
        ask(FILLED, "spots(2, -1), his own alone", y -> y.spots(2, -1), 1);
        ask(FILLED, "spots(2, 0)", y -> y.spots(2, 0), 2);
        s.says(27, "-5: not so many.");
        ask(alone, "spots(0, 36)", y -> y.spots(0, 36), -5);
        ask(alone, "spots(0, MAX)", y -> y.spots(0, Integer.MAX_VALUE), -5);
        ask(FILLED, "spots(2, 1)", y -> y.spots(2, 1), -5);
        s.asked(() -> reported(FILLED, 1, 1), "spots(2, 0) of none", y -> y.spots(2, 0), -5);
        s.asked(() -> reported(FILLED, 1, 1), "spots(2, -1) of none", y -> y.spots(2, -1), 0);
        s.says(27, "BAD: -10.");
        int[][] wrong = {{-1, 0}, {5, 0}, {0, -2}, {5, -2}, {32, 0}, {-1, -1}};
        for (int[] one : wrong) {
            s.ten("spots(" + one[0] + ", " + one[1] + ")", y -> y.spots(one[0], one[1]));
        }
        s.refused(HeardSeen::new, "spots(0, 0) of nobody", y -> y.spots(0, 0), -10, Sentences.BY_BAD);
        s.refused(Sentences::smallest, "spots(2, 0) of two", y -> y.spots(2, 0), -10, Sentences.BY_BAD);
        for (int v : Sentences.FAR) {
            s.ten("spots(" + v + ", 0)", y -> y.spots(v, 0));
            if (v < 0) {
                s.ten("spots(0, " + v + ")", y -> y.spots(0, v));
            }
        }
    }
}
