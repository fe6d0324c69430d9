/** The text's bounds, and the faults of a plan. */
final class PlanBoundaries {
    private static final String SMALL = "garden 3 3;";
    private final Sentences s;

    PlanBoundaries(Sentences s) {
        this.s = s;
    }

    void lookAtAll() {
        type();
        wipe();
        longest();
        gardenOnce();
        items();
        letters();
        figures();
        signs();
        blanks();
        words();
        tooMany();
        thirdFigure();
        numbersNotAsTold();
        notFree();
        alike();
        strangeBytes();
        endsTooEarly();
        takesThePlace();
        read();
    }

    private void reads(String plan, int people) {
        HeardSeen x = new HeardSeen();
        Sentences.typeText(x, plan);
        s.due("read() of '" + plan + "'", x.read(), people);
    }

    private void faults(String plan, int place) {
        reads(plan, -10 - place);
    }

    private void type() {
        s.says(10, "The lowest n (1 .. 8) bytes of v, the highest of them first, come to THE TEXT: how many it has.");
        for (int n = 1; n <= 8; n++) {
            // The bytes of v above the lowest n would be faults.
            String head = "garden 2 3; fountain 5;".substring(0, 23 - n);
            long v = -1;
            for (char c : "garden 2 3; fountain 5;".substring(23 - n).toCharArray()) {
                v = v << 8 | c;
            }
            HeardSeen x = new HeardSeen();
            Sentences.typeText(x, head);
            s.due("type(.., " + n + ")", x.type(v, n), 23);
            s.due("read()", x.read(), 0);
            s.due("count(2)", x.count(2), 1);
            s.due("set(1, 5, true)", x.set(1, 5, true), HeardSeen.NO);
        }
        HeardSeen x = new HeardSeen();
        s.due("type(MIN, 8)", x.type(Long.MIN_VALUE, 8), 8);
        s.due("type(MAX, 1)", x.type(Long.MAX_VALUE, 1), 9);
        s.due("type(0, 1)", x.type(0, 1), 10);
        s.says(10, "BAD; FULL.");
        int[] wrong = {-8, -1, 0, 9, 10, 16};
        for (int n : wrong) {
            s.bad(HeardSeen::new, "type(32, " + n + ")", y -> y.type(32, n));
            s.bad(Sentences::fullest, "type(32, " + n + "), BAD ahead of FULL", y -> y.type(32, n));
        }
        for (int n : Sentences.FAR) {
            s.bad(HeardSeen::new, "type(32, " + n + ")", y -> y.type(32, n));
        }
        for (int n = 1; n <= 8; n++) {
            int bytes = n;
            s.due("count(5) at the fullest", Sentences.fullest().count(5), 250);
            s.refused(Sentences::fullest, "type(32, " + n + ")", y -> y.type(32, bytes), HeardSeen.FULL,
                Sentences.BY_FULL);
            for (int room = 1; room <= 8; room++) {
                int blanks = 250 - room;
                if (n <= room) {
                    s.due("type(.., " + n + ") with room for " + room, spaced(blanks).type(32, n), blanks + n);
                } else {
                    s.refused(() -> spaced(blanks), "type(.., " + n + ") with room for " + room,
                        y -> y.type(32, bytes), HeardSeen.FULL, Sentences.BY_FULL);
                }
            }
        }
    }

    private static HeardSeen spaced(int blanks) {
        HeardSeen x = new HeardSeen();
        Sentences.typeText(x, " ".repeat(blanks));
        return x;
    }

    private void wipe() {
        s.says(11, "THE TEXT is empty: how many it had.");
        HeardSeen x = new HeardSeen();
        s.due("wipe() of an empty one", x.wipe(), 0);
        x.type(32, 1);
        s.due("wipe() of 1", x.wipe(), 1);
        s.due("wipe() again", x.wipe(), 0);
        s.due("count(5)", x.count(5), 0);
        s.due("read()", x.read(), -10);
        s.due("wipe() of 250", Sentences.fullest().wipe(), 250);
        x = Sentences.fullest();
        x.wipe();
        s.due("type(32, 8) afterwards", x.type(32, 8), 8);
        s.due("read() of nothing but those 8", x.read(), -10);
        s.due("count(0): the garden stays", x.count(0), 5);
    }

    private void longest() {
        s.says(Sentences.TERMS, "THE PLAN is a TEXT (250 bytes at most) of ITEMS, each ended by ; :");
        StringBuilder plan = new StringBuilder(SMALL);
        while (plan.length() + 8 <= 250) {
            plan.append("drown 3;");
        }
        reads(plan + " ".repeat(250 - plan.length()), 0);
        String hedge = "hedge 1;";
        String full = SMALL + " ".repeat(250 - SMALL.length() - hedge.length()) + hedge;
        s.due("250 bytes", full.length(), 250);
        HeardSeen x = new HeardSeen();
        Sentences.typeText(x, full);
        s.due("read() up to the last byte", x.read(), 0);
        s.due("count(1)", x.count(1), 1);
        faults(full.substring(0, 249) + "x", 249);
        faults(full.substring(0, 249) + " ", 250);
        // The most items that fit in: 80 that need no blank.
        StringBuilder most = new StringBuilder("garden2 2;");
        while (most.length() + 6 <= 250) {
            most.append("wind1;");
        }
        reads(most.toString(), 0);
        faults(SMALL + "hedge 1 hedge 2;", 19);
        faults("garden 3 3 hedge 1;", 11);
        faults(SMALL + "wind 1 ; ;", 20);
    }

    private void gardenOnce() {
        s.says(Sentences.TERMS, "garden W H (once, first of all);");
        for (int n = 0; n <= 99; n++) {
            boolean fits = n >= 2 && n <= 6;
            reads("garden " + n + " 4;", fits ? 0 : -17);
            reads("garden 4 " + n + ";", fits ? 0 : -19);
        }
        s.says(Sentences.TERMS, "garden again, anything ahead of it,");
        faults(SMALL + "garden 3 3;", 11);
        faults(SMALL + "wind 1;garden 4 4;", 18);
        faults(SMALL + "garden", 11);
        faults("wind 1;" + SMALL, 0);
        faults(" drown 1;", 1);
        faults("7 " + SMALL, 0);
        faults("-" + SMALL, 0);
        faults("  ;" + SMALL, 2);
        faults("gardengarden 3 3;", 0);
    }

    private void items() {
        s.says(Sentences.TERMS, "hedge q; fountain q; drown n; wind n, wind - n (below 0); person KIND q VOICE; "
            + "tell a b.");
        for (int n = 0; n <= 99; n++) {
            number("garden 6 6;hedge ", n, ";", n <= 35, 0);
            number("garden 2 2;hedge ", n, ";", n <= 3, 0);
            number("garden 6 6;fountain ", n, ";", n <= 35, 0);
            number("garden 5 3;fountain ", n, ";", n <= 14, 0);
            number("garden 6 6;drown ", n, ";", n <= 4, 0);
            number("garden 6 6;wind ", n, ";", n <= 1, 0);
            number("garden 6 6;wind - ", n, ";", n == 1, 0);
            number("garden 6 6;person ", n, " 0 0;", n <= 5, 1);
            number("garden 6 6;person 0 ", n, " 0;", n <= 35, 1);
            number("garden 2 5;person 0 ", n, " 0;", n <= 9, 1);
            number("garden 6 6;person 0 0 ", n, ";", n <= 9, 1);
            number("garden 6 6;person 0 0 0;person 0 1 0;tell ", n, " 0;", n == 1, 2);
            number("garden 6 6;person 0 0 0;person 0 1 0;tell 0 ", n, ";", n == 1, 2);
        }
        HeardSeen x = Sentences.laid("garden 6 6;wind -1;");
        s.due("put(1, 0)", x.put(1, 0), -1);
        x = Sentences.laid("garden 6 6;wind - 01;wind 0;");
        s.due("put(1, 0), the last one counts", x.put(1, 1), 0);
        x = Sentences.laid("garden 6 6;drown 4;drown 0;");
        s.due("put(0, 0), the last one counts", x.put(0, 1), 0);
        faults("garden 3 3;tell 0 1;person 0 0 0;person 0 1 0;", 16);
        faults("garden 3 3;person 0 0 0;tell 0 1;person 0 1 0;", 31);
    }

    /** For tell, 0 in place of a number is b like a at b: then the fault is the second one. */
    private void number(String head, int n, String tail, boolean fits, int people) {
        boolean alikeLater = n == 0 && head.endsWith("tell ");
        reads(head + n + tail, fits ? people : -10 - head.length() - (alikeLater ? 2 : 0));
    }

    private void letters() {
        s.says(Sentences.TERMS, "TOKENS: words of letters a .. z,");
        for (int c = 0; c < 256; c++) {
            boolean isLetter = c >= 'a' && c <= 'z';
            boolean fits = c == ' ' || c == '0';
            reads(SMALL + "hedge" + (char) c + "8;", fits ? 0 : isLetter ? -21 : -26);
        }
        String[] words = {"garden", "hedge", "fountain", "drown", "wind", "person", "tell"};
        for (String word : words) {
            for (int k = 0; k < word.length(); k++) {
                char large = (char) (word.charAt(k) - 32);
                faults(SMALL + word.substring(0, k) + large + word.substring(k + 1) + " 1;", 11);
                char other = word.charAt(k) == 'z' ? 'a' : (char) (word.charAt(k) + 1);
                faults(SMALL + word.substring(0, k) + other + word.substring(k + 1) + " 1;", 11);
                faults(SMALL + word.substring(0, k) + word.substring(k + 1) + " 1;", 11);
            }
        }
    }

    private void figures() {
        s.says(Sentences.TERMS, "figures (1 or 2 are one number),");
        for (int c = 0; c < 256; c++) {
            String plan = "garden 6 6;hedge 1" + (char) c + ";";
            boolean fits = c >= '0' && c <= '9' || c == ' ';
            reads(plan, fits ? 0 : c == ';' ? -29 : -28);
        }
        for (int n = 0; n <= 9; n++) {
            HeardSeen x = Sentences.laid("garden 6 6;hedge 0" + n + ";hedge 2" + n + ";");
            s.due("set(0, " + n + ", true)", x.set(0, n, true), HeardSeen.NO);
            s.due("set(0, " + (20 + n) + ", true)", x.set(0, 20 + n, true), HeardSeen.NO);
        }
        // Two figures with a blank between are two numbers.
        faults("garden 6 6;hedge 1 2;", 19);
        reads("garden 6 6;person 0 1 2;", 1);
        faults("garden 66;", 7);
    }

    private void signs() {
        s.says(Sentences.TERMS, "-, ; ;");
        reads(SMALL + "wind-1;", 0);
        reads(SMALL + "wind - 1 ;", 0);
        faults(SMALL + "-", 11);
        faults(SMALL + ";", 11);
        faults(SMALL + "wind --1;", 17);
        faults(SMALL + "hedge -1;", 17);
        faults(SMALL + "drown - 0;", 17);
        faults(SMALL + "person - 0 0;", 18);
        faults(SMALL + "person 0 0 -1;", 22);
        faults("garden -3 3;", 7);
    }

    private void blanks() {
        s.says(Sentences.TERMS, "blanks (32) between.");
        for (int c = 0; c < 256; c++) {
            String plan = "garden 3" + (char) c + "3;";
            boolean isFigure = c >= '0' && c <= '9';
            reads(plan, c == ' ' ? 0 : isFigure ? -17 : -18);
        }
        reads("   garden   3   3   ;   hedge   4   ;   ", 0);
        reads("garden3 3;hedge4;wind1;person0 0 0;person0 1 0;tell0 1;", 2);
        reads("garden 3 3;", 0);
        faults("gar den 3 3;", 0);
    }

    private void words() {
        s.says(Sentences.TERMS, "FAULT: the place of the first byte of the first TOKEN that can not stand there "
            + "(a word that is none,");
        String[] none = {"h", "hedg", "hedges", "hedgee", "edge", "fontain", "fountains", "drowns", "winds", "persons",
            "people", "tells", "tel", "gardens", "report", "image", "a", "z", "hedgehedge"};
        for (String word : none) {
            faults(SMALL + word + " 1;", 11);
            faults(SMALL + "  " + word + " 1;", 13);
            faults(word + " 3 3;", 0);
            faults(SMALL + "hedge " + word + ";", 17);
        }
        faults(SMALL + "hedge hedge;", 17);
        faults(SMALL + "hedge 1 tell;", 19);
        // The first of two faults.
        faults("garden 9 9;", 7);
        faults(SMALL + "hedge 9;hedge 9;", 17);
        faults(SMALL + "person 6 9 10;", 18);
        faults(SMALL + "person 5 9 10;", 20);
    }

    private void tooMany() {
        s.says(Sentences.TERMS, "a 6th person, 7th tell at the word,");
        StringBuilder plan = new StringBuilder(SMALL);
        for (int p = 0; p < 5; p++) {
            plan.append("person 0 ").append(p).append(" 0;");
            reads(plan.toString(), p + 1);
        }
        faults(plan + "person 0 5 0;", plan.length());
        faults(plan + "person 9 9 9;", plan.length());
        faults(plan + " person", plan.length() + 1);
        reads(plan + "tell 3 4;hedge 8;", 5);
        for (int t = 0; t < 6; t++) {
            plan.append("tell ").append(t % 5).append(" ").append((t + 1) % 5).append(";");
            reads(plan.toString(), 5);
        }
        faults(plan + "tell 0 1;", plan.length());
        faults(plan + "tell 9 9;", plan.length());
        faults(plan + "  tell", plan.length() + 2);
        faults(plan + "person 0 5 0;", plan.length());
        reads(plan + "hedge 8;", 5);
    }

    private void thirdFigure() {
        s.says(Sentences.TERMS, "a third figure's number,");
        faults("garden 002 2;", 7);
        faults("garden 2 002;", 9);
        faults("garden 222;", 7);
        faults("garden 6 6;hedge 001;", 17);
        faults("garden 6 6;fountain 012;", 20);
        faults("garden 6 6;drown 000;", 17);
        faults("garden 6 6;wind 001;", 16);
        faults("garden 6 6;wind - 001;", 18);
        faults("garden 6 6;person 0 123;", 20);
        faults("garden 6 6;person 012 3;", 18);
        faults("garden 6 6;person 000 0 0;", 18);
        faults("garden 6 6;person 0 000 0;", 20);
        faults("garden 6 6;person 0 0 000;", 22);
        faults("garden 6 6;person 0 0 0;person 0 1 0;tell 000 1;", 42);
        faults("garden 6 6;person 0 0 0;person 0 1 0;tell 0 001;", 44);
        faults("garden 6 6;hedge 1234567890123456789012345678901234567890;", 17);
        faults("garden 6 6;hedge 4294967297;", 17);
        faults("garden 6 6;hedge 00000000000000000000000000000000000;", 17);
    }

    private void numbersNotAsTold() {
        s.says(Sentences.TERMS, "a number not as told,");
        faults("garden 1 6;", 7);
        faults("garden 6 7;", 9);
        faults("garden 6 6;hedge 36;", 17);
        faults("garden 6 6;fountain 99;", 20);
        faults("garden 6 6;drown 5;", 17);
        faults("garden 6 6;wind 2;", 16);
        faults("garden 6 6;wind - 2;", 18);
        faults("garden 6 6;wind - 0;", 18);
        faults("garden 6 6;person 6 0 0;", 18);
        faults("garden 6 6;person 0 36 0;", 20);
        faults("garden 6 6;person 0 0 10;", 22);
        faults("garden 6 6;tell 0 1;", 16);
        faults("garden 6 6;person 0 0 0;tell 0 1;", 31);
        faults("garden 6 6;person 0 0 0;tell 1 0;", 29);
        faults("garden 6 6;hedge ;", 17);
        faults("garden 6 6;wind - ;", 18);
    }

    private void notFree() {
        s.says(Sentences.TERMS, "also a HEDGE where one is or somebody stands, a PERSON's SQUARE that is not free,");
        for (int q = 0; q < 9; q++) {
            faults(SMALL + "hedge " + q + ";hedge " + q + ";", 25);
            faults(SMALL + "hedge " + q + ";hedge 0" + q + ";", 25);
            faults(SMALL + "person 0 " + q + " 0;hedge " + q + ";", 30);
            faults(SMALL + "hedge " + q + ";person 0 " + q + " 0;", 28);
            faults(SMALL + "person 0 " + q + " 0;person 0 " + q + " 0;", 33);
            reads(SMALL + "fountain " + q + ";person 0 " + q + " 0;fountain " + q + ";", 1);
            reads(SMALL + "fountain " + q + ";hedge " + q + ";fountain " + q + ";", 0);
        }
        HeardSeen x = Sentences.laid(SMALL + "fountain 8;fountain 08;");
        s.due("count(2), a fountain told twice", x.count(2), 1);
        // At the square, whatever comes behind it.
        faults(SMALL + "hedge 2;person 0 2", 28);
        faults(SMALL + "hedge 2;person 0 2 99;", 28);
        faults(SMALL + "hedge 2;hedge 2", 25);
    }

    private void alike() {
        s.says(Sentences.TERMS, "b like a,");
        faults(SMALL + "person 0 0 0;tell 0 0;", 31);
        faults(SMALL + "person 0 0 0;person 0 1 0;tell 1 1;", 44);
        faults(SMALL + "person 0 0 0;person 0 1 0;tell 1 01;", 44);
        faults(SMALL + "person 0 0 0;tell 0 0", 31);
        reads(SMALL + "person 0 0 0;person 0 1 0;tell 1 0;tell 0 1;tell 0 1;", 2);
    }

    private void strangeBytes() {
        s.says(Sentences.TERMS, "a byte that begins none, too);");
        for (int c = 0; c < 256; c++) {
            boolean blank = c == ' ';
            faults("" + (char) c, blank ? 1 : 0);
            reads(SMALL + (char) c, blank ? 0 : -21);
            reads(SMALL + "hedge " + (char) c + " ;", c >= '0' && c <= '8' ? 0 : blank ? -29 : -27);
            reads(SMALL + "hedge 4 " + (char) c + ";", blank ? 0 : c == ';' ? -30 : -29);
        }
    }

    private void endsTooEarly() {
        s.says(Sentences.TERMS, "the TEXT's length, if it ends too early (an empty one, too).");
        faults("", 0);
        faults(" ", 1);
        faults(" ".repeat(250), 250);
        String plan = "garden 6 6 ;hedge 12 ;fountain 35 ;drown 4 ;wind 1 ;wind - 1 ;person 5 11 9 ;person 0 0 0 ;"
            + "tell 0 1 ;";
        int token = 0;
        boolean word = false;
        for (int k = 1; k <= plan.length(); k++) {
            char c = plan.charAt(k - 1);
            char next = k < plan.length() ? plan.charAt(k) : ' ';
            boolean isLetter = c >= 'a' && c <= 'z';
            token = isLetter && !word ? k - 1 : token;
            word = isLetter;
            boolean cutWord = isLetter && next >= 'a' && next <= 'z';
            String head = plan.substring(0, k);
            int people = head.contains("person 0 0 0 ;") ? 2 : head.contains("person 5 11 9 ;") ? 1 : 0;
            reads(head, c == ';' ? people : -10 - (cutWord ? token : k));
        }
    }

    private void takesThePlace() {
        s.says(Sentences.TERMS, "A PLAN that is read takes the place of all but IMAGES (what is not told is as at "
            + "first).");
        HeardSeen x = Sentences.fullest();
        Sentences.typeText(x, "garden 6 6;");
        int bads = x.status(0);
        s.due("read()", x.read(), 0);
        int[] want = {0, 0, 0, 0, 0, 11, 36};
        for (int what = 0; what < 7; what++) {
            s.due("count(" + what + ")", x.count(what), want[what]);
        }
        s.due("status(0)", x.status(0), bads);
        s.due("put(0, 1)", x.put(0, 1), 1);
        s.due("put(1, 0)", x.put(1, 0), 0);
        s.due("from(0)", x.from(0), 1);
        s.due("count(6)", x.count(6), 6);
        s.due("from(1)", x.from(1), 1);
        s.due("count(4)", x.count(4), 1);
        x = Sentences.fullest();
        s.due("read(), the other garden", x.read(), 2);
        s.due("count(3)", x.count(3), 1);
        s.due("count(4)", x.count(4), 0);
        s.due("where(0)", x.where(0), 7);
        s.due("where(2)", x.where(2), HeardSeen.BAD);
        s.due("put(0, 0)", x.put(0, 0), 1);
        s.due("put(1, 0)", x.put(1, 0), 1);
        s.due("read() again", x.read(), 2);
        s.due("put(0, 0)", x.put(0, 0), 1);
    }

    private void read() {
        s.says(12, "THE PLAN is read: how many PEOPLE.");
        reads(SMALL, 0);
        reads(SMALL + "person 5 8 9;", 1);
        reads("garden 2 3;person 0 0 0;person 0 1 0;person 0 2 0;person 0 3 0;person 0 4 0;", 5);
        s.says(12, "-10 less the FAULT: all stays.");
        String[] plans = {"", " ", "garden", "garden 6", "garden 6 6", "hedge 1;", "garden 2 2;person 0 0 9;hedge 1;x",
            "garden 2 2;person 0 0 9;wind 1;drown 4;tell 0 1;", "garden 2 2;fountain 1;fountain 4;"};
        int[] places = {0, 1, 6, 8, 10, 0, 32, 46, 31};
        for (int k = 0; k < plans.length; k++) {
            String plan = plans[k];
            s.asked(() -> withText(plan), "read() of '" + plan + "'", HeardSeen::read, -10 - places[k]);
        }
        String late = SMALL + " ".repeat(250 - SMALL.length() - 1) + "x";
        s.asked(() -> withText(late), "read() with the fault at the last byte", HeardSeen::read, -10 - 249);
        s.asked(() -> withText(" ".repeat(250)), "read() of 250 blanks", HeardSeen::read, -260);
    }

    private static HeardSeen withText(String plan) {
        HeardSeen x = Sentences.fullest();
        Sentences.typeText(x, plan);
        return x;
    }
}
