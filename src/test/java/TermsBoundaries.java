/** The terms' bounds: squares, sight, reach, kinds, the law. */
final class TermsBoundaries {
    private final Sentences s;

    TermsBoundaries(Sentences s) {
        this.s = s;
    }

    void lookAtAll() {
        squares();
        sets();
        drownAndWind();
        people();
        yards();
        clearPastCorners();
        clearPastEachHedge();
        person();
        deafBlindScreened();
        next();
        abbess();
        reachByVoice();
        reachByWind();
        reachByWater();
        law();
        judge();
    }

    private void squares() {
        s.says(Sentences.TERMS, "6 each; 6, 6 at first): SQUARE q is at x: q by W left over, y: q by W cut.");
        s.due("count(6) at first", new HeardSeen().count(6), 36);
        s.due("clear(35, 35) at first", new HeardSeen().clear(35, 35), 1);
        s.due("clear(36, 35) at first", new HeardSeen().clear(36, 35), HeardSeen.BAD);
        for (int w = 0; w <= 8; w++) {
            for (int h = 0; h <= 8; h++) {
                boolean fits = w >= 2 && w <= 6 && h >= 2 && h <= 6;
                HeardSeen x = new HeardSeen();
                s.due("garden(" + w + ", " + h + ")", x.garden(w, h), fits ? w * h : HeardSeen.BAD);
                s.due("count(6) after it", x.count(6), fits ? w * h : 36);
            }
        }
        // The last square of a row and the first of the next one are no neighbours: W yards.
        for (int w = 2; w <= 6; w++) {
            for (int voice = w - 1; voice <= w; voice++) {
                HeardSeen x = new HeardSeen();
                x.garden(w, 2);
                x.person(0, w - 1, voice);
                x.person(0, w, 0);
                s.due("knows(1, 0, 1) from row to row, W " + w + ", VOICE " + voice, x.knows(1, 0, 1),
                    voice == w ? 1 : 0);
            }
        }
    }

    private void sets() {
        s.says(Sentences.TERMS, "HEDGES, FOUNTAINS: SQUARES (sets; none at first).");
        for (int what = 0; what < 2; what++) {
            HeardSeen x = new HeardSeen();
            s.due("count at first", x.count(1 + what), 0);
            for (int q = 0; q < 36; q++) {
                s.due("set(" + what + ", " + q + ", true)", x.set(what, q, true), 1);
                s.due("again", x.set(what, q, true), HeardSeen.NO);
            }
            s.due("count of all squares", x.count(1 + what), 36);
            s.due("count of the other sort", x.count(2 - what), 0);
            s.due("the other sort on one of them", x.set(1 - what, 35, true), 1);
            for (int q = 0; q < 36; q++) {
                s.due("set(" + what + ", " + q + ", false)", x.set(what, q, false), 1);
            }
            s.due("count", x.count(1 + what), 0);
            s.due("count of the other sort", x.count(2 - what), 1);
        }
    }

    private void drownAndWind() {
        s.says(Sentences.TERMS, "DROWN (0 .. 4; 1 at first), WIND (-1 .. 1; 0 at first).");
        for (int v = -3; v <= 6; v++) {
            s.due("put(0, " + v + ")", new HeardSeen().put(0, v), v >= 0 && v <= 4 ? 1 : -10);
            s.due("put(1, " + v + ")", new HeardSeen().put(1, v), v >= -1 && v <= 1 ? 0 : -10);
        }
    }

    private void people() {
        s.says(Sentences.TERMS, "PEOPLE 0 .. 4, as they come: a KIND, a SQUARE (no HEDGE, nobody else there), "
            + "a VOICE (0 .. 9).");
        for (int v = -1; v <= 10; v++) {
            HeardSeen x = new HeardSeen();
            s.due("person(0, 0, " + v + ")", x.person(0, 0, v), v >= 0 && v <= 9 ? 0 : HeardSeen.BAD);
            x = new HeardSeen();
            s.due("person(" + v + ", 0, 0)", x.person(v, 0, 0), v >= 0 && v <= 5 ? 0 : HeardSeen.BAD);
        }
        HeardSeen x = new HeardSeen();
        for (int p = 0; p < 7; p++) {
            s.due("person number " + p, x.person(p % 6, 35 - p, 9), p < 5 ? p : HeardSeen.FULL);
        }
        for (int p = -1; p < 7; p++) {
            s.due("where(" + p + ")", x.where(p), p >= 0 && p < 5 ? 35 - p : HeardSeen.BAD);
        }
        x.garden(2, 2);
        x.set(0, 3, true);
        s.due("on a hedge", x.person(0, 3, 0), HeardSeen.NO);
        s.due("beside it", x.person(0, 2, 0), 0);
        s.due("where somebody is", x.person(0, 2, 0), HeardSeen.NO);
    }

    private void yards() {
        s.says(Sentences.TERMS, "YARDS of two SQUARES: how far their x and y are, together.");
        for (int w = 2; w <= 6; w++) {
            for (int h = 2; h <= 6; h++) {
                int far = w + h - 2;
                farCorners(w, h, 0, w * h - 1, far);
                farCorners(w, h, w - 1, w * h - w, far);
            }
        }
    }

    private void farCorners(int w, int h, int from, int to, int far) {
        for (int voice = far - 1; voice <= far && voice <= 9; voice++) {
            HeardSeen x = new HeardSeen();
            x.garden(w, h);
            x.person(0, from, voice);
            x.person(0, to, voice);
            String call = "knows, " + w + " by " + h + ", " + from + ", " + to + ", VOICE " + voice;
            s.due(call, x.knows(1, 0, 1), voice == far ? 1 : 0);
            s.due(call, x.knows(0, 1, 1), voice == far ? 1 : 0);
        }
    }

    private void clearPastCorners() {
        s.says(Sentences.TERMS, "CLEAR of two SQUARES: no HEDGE, but on these two, has a point of the straight line "
            + "between both middles within it (its edge and corners are not within it).");
        HeardSeen x = new HeardSeen();
        int[] beside = {1, 6, 8, 13, 15, 20, 22, 27, 29, 34};
        for (int q : beside) {
            x.set(0, q, true);
        }
        s.due("clear(0, 35) past corners on both sides", x.clear(0, 35), 1);
        s.due("clear(35, 0)", x.clear(35, 0), 1);
        x.set(0, 0, true);
        x.set(0, 35, true);
        s.due("clear(0, 35), hedges on both", x.clear(0, 35), 1);
        s.due("clear(0, 0), a hedge on it", x.clear(0, 0), 1);
        s.due("clear(2, 2), no hedge on it", x.clear(2, 2), 1);
        x.set(0, 21, true);
        s.due("clear(0, 35) through one", x.clear(0, 35), 0);
        s.due("clear(0, 21) up to it", x.clear(0, 21), 1);
        s.due("clear(35, 21) up to it", x.clear(35, 21), 1);
        for (int q = 0; q < 36; q++) {
            x.set(0, q, true);
        }
        s.due("clear(0, 1) with hedges everywhere", x.clear(0, 1), 1);
        s.due("clear(0, 6)", x.clear(0, 6), 1);
        s.due("clear(0, 7)", x.clear(0, 7), 1);
        s.due("clear(5, 6), a row further", x.clear(5, 6), 0);
        s.due("clear(0, 2)", x.clear(0, 2), 0);
        s.due("clear(0, 12)", x.clear(0, 12), 0);
        s.due("clear(0, 8)", x.clear(0, 8), 0);
    }

    private void clearPastEachHedge() {
        s.says(Sentences.TERMS, "has a point of the straight line between both middles within it");
        for (int w = 2; w <= 6; w++) {
            int squares = w * (8 - w);
            for (int hedge = 0; hedge < squares; hedge++) {
                for (int p = 0; p < squares; p++) {
                    HeardSeen x = new HeardSeen();
                    x.garden(w, 8 - w);
                    x.set(0, hedge, true);
                    for (int q = 0; q < squares; q++) {
                        boolean through = hedge != p && hedge != q && goesThrough(w, p, q, hedge);
                        s.due("clear(" + p + ", " + q + ") past " + hedge + ", W " + w, x.clear(p, q), through ? 0 : 1);
                    }
                }
            }
        }
        for (int hedge = 0; hedge < 36; hedge++) {
            for (int p = 0; p < 36; p++) {
                HeardSeen x = new HeardSeen();
                x.set(0, hedge, true);
                for (int q = 0; q < 36; q++) {
                    boolean through = hedge != p && hedge != q && goesThrough(6, p, q, hedge);
                    s.due("clear(" + p + ", " + q + ") past " + hedge, x.clear(p, q), through ? 0 : 1);
                }
            }
        }
    }

    /** Looks at 840 points of the line, in whole numbers; the shortest way through a square has some twenty of them. */
    private static boolean goesThrough(int w, int p, int q, int hedge) {
        int parts = 840;
        for (int k = 0; k <= parts; k++) {
            int x = parts * (2 * (p % w) + 1) + 2 * k * (q % w - p % w);
            int y = parts * (2 * (p / w) + 1) + 2 * k * (q / w - p / w);
            int left = parts * 2 * (hedge % w);
            int top = parts * 2 * (hedge / w);
            if (x > left && x < left + 2 * parts && y > top && y < top + 2 * parts) {
                return true;
            }
        }
        return false;
    }

    private void knows(HeardSeen x, int a, int b, int sees, int hears) {
        s.due("knows(" + a + ", " + b + ", 0)", x.knows(a, b, 0), sees);
        s.due("knows(" + a + ", " + b + ", 1)", x.knows(a, b, 1), hears);
    }

    private void person() {
        s.says(Sentences.TERMS, "KINDS, each under the one told, tell what one SEES, HEARS of another one: "
            + "0 PERSON: SEES one, if it is CLEAR; HEARS one by REACH.");
        HeardSeen x = Sentences.laid("garden 3 2;hedge 1;person 0 0 2;person 0 2 1;");
        knows(x, 0, 1, 0, 0);
        knows(x, 1, 0, 0, 1);
        x.set(0, 1, false);
        knows(x, 0, 1, 1, 0);
        knows(x, 1, 0, 1, 1);
    }

    private void deafBlindScreened() {
        s.says(Sentences.TERMS, "1 DEAF (under PERSON): HEARS nobody.");
        HeardSeen x = Sentences.laid("garden 3 2;person 1 0 9;person 0 1 9;person 1 2 9;");
        knows(x, 0, 1, 1, 0);
        knows(x, 0, 2, 1, 0);
        knows(x, 1, 0, 1, 1);
        s.says(Sentences.TERMS, "2 BLIND (under PERSON): SEES nobody.");
        x = Sentences.laid("garden 3 2;person 2 0 9;person 0 1 9;person 2 3 0;");
        knows(x, 0, 1, 0, 1);
        knows(x, 0, 2, 0, 0);
        knows(x, 2, 0, 0, 1);
        knows(x, 1, 0, 1, 1);
        s.says(Sentences.TERMS, "3 SCREENED (under PERSON): is not seen by those of the same y.");
        x = Sentences.laid("garden 6 3;person 3 6 9;person 0 11 9;person 0 5 9;person 0 12 9;person 3 9 9;");
        knows(x, 1, 0, 0, 1);
        knows(x, 2, 0, 1, 1);
        knows(x, 3, 0, 1, 1);
        knows(x, 0, 1, 1, 1);
        knows(x, 0, 4, 0, 1);
        knows(x, 4, 0, 0, 1);
        knows(x, 4, 3, 1, 1);
        x.move(4, 0);
        knows(x, 0, 4, 1, 1);
        knows(x, 4, 0, 1, 1);
    }

    private void next() {
        s.says(Sentences.TERMS, "4 NEXT (under DEAF): HEARS, by REACH, those of 1 YARD alone.");
        HeardSeen x = Sentences.laid("garden 5 5;person 4 12 9;person 0 0 9;");
        for (int q = 0; q < 25; q++) {
            if (q != 12) {
                x.move(1, q);
                boolean beside = q == 7 || q == 11 || q == 13 || q == 17;
                knows(x, 0, 1, 1, beside ? 1 : 0);
            }
        }
        knows(x, 1, 0, 1, 1);
        // By REACH alone: not a voice of 0, not one against the wind, one by the water.
        x = Sentences.laid("garden 3 2;person 4 0 9;person 0 1 0;");
        knows(x, 0, 1, 1, 0);
        x = Sentences.laid("garden 3 2;wind 1;person 4 0 9;person 0 1 1;");
        knows(x, 0, 1, 1, 0);
        x.set(1, 0, true);
        knows(x, 0, 1, 1, 1);
        x = Sentences.laid("garden 3 2;wind 1;person 4 1 9;person 0 0 0;");
        knows(x, 0, 1, 1, 1);
    }

    private void abbess() {
        s.says(Sentences.TERMS, "5 ABBESS (under PERSON): SEES, HEARS all (another ABBESS, too); "
            + "is neither seen nor heard by others.");
        HeardSeen x = Sentences.laid("garden 6 6;hedge 1;hedge 6;hedge 7;fountain 0;drown 4;person 5 0 9;person 5 35 9;"
            + "person 3 5 0;person 1 30 0;person 4 2 0;");
        for (int other = 1; other < 5; other++) {
            knows(x, 0, other, 1, 1);
        }
        knows(x, 1, 0, 1, 1);
        x = Sentences.laid("garden 3 3;person 5 4 9;person 0 1 9;person 4 3 9;person 3 5 9;person 2 7 9;");
        for (int other = 1; other < 5; other++) {
            knows(x, other, 0, 0, 0);
        }
    }

    private void reachByVoice() {
        s.says(Sentences.TERMS, "REACH of b to a: YARDS are no more than VOICE of b,");
        for (int voice = 0; voice <= 9; voice++) {
            HeardSeen x = new HeardSeen();
            x.person(0, 0, voice);
            x.person(0, 35, 9);
            for (int q = 1; q < 36; q++) {
                x.move(1, q);
                s.due("VOICE " + voice + " to " + q, x.knows(1, 0, 1), q % 6 + q / 6 <= voice ? 1 : 0);
            }
        }
    }

    private void reachByWind() {
        s.says(Sentences.TERMS, "and WIND, if a's x is greater than b's, less WIND, if it is less;");
        for (int wind = -1; wind <= 1; wind++) {
            for (int voice = 0; voice <= 9; voice++) {
                HeardSeen x = new HeardSeen();
                x.put(1, wind);
                x.person(0, 8, voice);
                x.person(0, 35, 9);
                for (int q = 0; q < 36; q++) {
                    if (q != 8) {
                        x.move(1, q);
                        int yards = Math.abs(q % 6 - 2) + Math.abs(q / 6 - 1);
                        int more = q % 6 > 2 ? wind : q % 6 < 2 ? -wind : 0;
                        s.due("VOICE " + voice + ", WIND " + wind + " to " + q, x.knows(1, 0, 1),
                            yards <= voice + more ? 1 : 0);
                    }
                }
            }
        }
        // The farthest there is: ten yards, by the loudest voice with the wind.
        HeardSeen x = Sentences.laid("garden 6 6;wind 1;person 0 0 9;person 0 35 9;");
        s.due("with the wind, ten yards", x.knows(1, 0, 1), 1);
        s.due("against it", x.knows(0, 1, 1), 0);
        x.put(1, -1);
        s.due("against it", x.knows(1, 0, 1), 0);
        s.due("with the wind, ten yards", x.knows(0, 1, 1), 1);
    }

    private void reachByWater() {
        s.says(Sentences.TERMS, "but if a or b is DROWN YARDS at most from a FOUNTAIN: 1 YARD at most, "
            + "and VOICE is 1 at least.");
        for (int drown = 0; drown <= 4; drown++) {
            for (int far = 0; far <= 5; far++) {
                HeardSeen x = Sentences.laid("garden 6 6;fountain 0;drown " + drown + ";person 0 35 9;person 0 34 9;");
                x.move(0, far);
                x.move(1, far + 12);
                boolean drowned = far <= drown;
                s.due("DROWN " + drown + ", b at " + far, x.knows(1, 0, 1), drowned ? 0 : 1);
                s.due("DROWN " + drown + ", a at " + far, x.knows(0, 1, 1), drowned ? 0 : 1);
                x.move(1, far + 6);
                s.due("DROWN " + drown + ", 1 yard", x.knows(1, 0, 1), 1);
            }
        }
        for (int voice = 0; voice <= 9; voice++) {
            for (int wind = -1; wind <= 1; wind++) {
                HeardSeen x = new HeardSeen();
                x.set(1, 14, true);
                x.put(1, wind);
                x.person(0, 14, voice);
                x.person(0, 15, voice);
                String call = "VOICE " + voice + ", WIND " + wind;
                s.due(call + ", to the right", x.knows(1, 0, 1), voice >= 1 ? 1 : 0);
                s.due(call + ", to the left", x.knows(0, 1, 1), voice >= 1 ? 1 : 0);
                x.move(1, 16);
                s.due(call + ", 2 yards", x.knows(1, 0, 1), 0);
                s.due(call + ", 2 yards", x.knows(0, 1, 1), 0);
            }
        }
        // Either of two fountains; none once they are gone.
        HeardSeen x = Sentences.laid("garden 6 2;fountain 5;fountain 0;drown 0;person 0 5 9;person 0 2 9;");
        s.due("by the second one", x.knows(1, 0, 1), 0);
        x.set(1, 5, false);
        s.due("it is gone", x.knows(1, 0, 1), 1);
        x.move(1, 0);
        s.due("by the first one", x.knows(1, 0, 1), 0);
    }

    private void law() {
        s.says(Sentences.TERMS, "THE LAW: nobody but an ABBESS both SEES and HEARS one who speaks. "
            + "MAY speak: of whom that is so.");
        s.due("may() of nobody", new HeardSeen().may(), 0);
        s.due("may() of one", Sentences.laid("garden 2 2;person 0 0 9;").may(), 1);
        HeardSeen x = Sentences.laid("garden 3 2;person 0 0 9;person 5 1 9;person 5 2 9;");
        s.due("may() of one with two abbesses", x.may(), 7);
        x.person(1, 3, 9);
        s.due("may() with a deaf one who is heard and seen", x.may(), 7);
        x.person(2, 4, 9);
        s.due("may() with a blind one who is heard and seen", x.may(), 7);
        s.due("may() of five blind ones",
            Sentences.laid("garden 3 2;person 2 0 9;person 2 1 9;person 2 2 9;person 2 3 9;person 2 4 9;").may(), 31);
        s.due("may() of five who see and hear all",
            Sentences.laid("garden 6 6;person 0 0 9;person 0 1 9;person 0 6 9;person 0 7 9;person 0 2 9;").may(), 0);
    }

    private void judge() {
        s.says(Sentences.TERMS, "JUDGE of some who speak (bits): the first a, then b, by whom it is broken "
            + "(a, no ABBESS, SEES and HEARS b); none.");
        s.due("judge(0) of nobody", new HeardSeen().judge(0), HeardSeen.NONE);
        HeardSeen x = Sentences.laid("garden 3 2;person 1 0 0;person 1 1 0;person 1 2 0;person 1 3 9;person 0 5 0;");
        s.due("judge(31): the last a", x.judge(31), 43);
        s.due("judge(8)", x.judge(8), 43);
        s.due("judge(23): he does not speak", x.judge(23), HeardSeen.NONE);
        s.due("judge(0): nobody speaks", x.judge(0), HeardSeen.NONE);
        // 0 hears the last ones alone, 1 hears all.
        x = Sentences.laid("garden 6 2;person 0 0 1;person 0 3 2;person 0 5 9;person 5 11 9;person 0 10 9;");
        s.due("judge(31): the first a, then the first b", x.judge(31), 2);
        s.due("judge(30)", x.judge(30), 2);
        s.due("judge(26): a is first, b the last one", x.judge(26), 4);
        s.due("judge(11): the first a who breaks it is 2", x.judge(11), 21);
        s.due("judge(8): an abbess is heard by none", x.judge(8), HeardSeen.NONE);
        s.due("judge(1)", x.judge(1), HeardSeen.NONE);
    }
}
