import java.nio.charset.StandardCharsets;
import java.util.Random;

/** Runs of calls by chance (always the same ones), each answered by the class and by the model. */
public final class RandomRunsTest {
    private static final int RUNS = 1500;
    private static final int MOST_CALLS = 512;
    private static int wrong;
    private final HeardSeen x = new HeardSeen();
    private final Model m = new Model();
    private final Random by;
    private final int run;
    private final StringBuilder calls = new StringBuilder();
    private int made;

    private RandomRunsTest(int run) {
        this.run = run;
        by = new Random(run);
    }

    public static void main(String[] args) {
        for (int run = 0; run < RUNS && wrong < 5; run++) {
            RandomRunsTest one = new RandomRunsTest(run);
            one.layGarden();
            // A plan takes some 70 calls, each followed by a digest, so the last one must still fit in.
            int most = run % 10 == 0 ? MOST_CALLS - 200 : 150;
            while (one.made < most && wrong < 5) {
                one.call();
            }
            one.stopIfTooMany();
        }
        System.out.println(wrong == 0 ? "RandomRunsTest: as due" : "RandomRunsTest: " + wrong + " wrong");
        System.exit(wrong == 0 ? 0 : 1);
    }

    private void stopIfTooMany() {
        if (made > MOST_CALLS) {
            throw new IllegalStateException(made + " calls on one object");
        }
    }

    private void due(String call, long got, long want) {
        made += 2;
        calls.append(call).append(" = ").append(got).append('\n');
        if (got != want) {
            wrong++;
            System.out.println("run " + run + ":\n" + calls + "due is " + want);
        }
        long digest = x.digest();
        if (digest != m.digest()) {
            wrong++;
            System.out.println("run " + run + ":\n" + calls + "the digest is not as due");
        }
    }

    /** Mostly a number of 0 .. most, now and then one beside or far away. */
    private int some(int most) {
        int dice = by.nextInt(60);
        if (dice == 0) {
            return -1 - by.nextInt(3);
        }
        if (dice == 1) {
            return most + 1 + by.nextInt(3);
        }
        if (dice == 2 && by.nextInt(4) == 0) {
            return by.nextInt();
        }
        return most < 0 ? 0 : by.nextInt(most + 1);
    }

    private int square() {
        return some(m.s.w * m.s.h - 1);
    }

    private int human() {
        return some(m.s.people.size() - 1);
    }

    private int group() {
        return by.nextInt(3) == 0 ? 0 : some((1 << m.s.people.size()) - 1);
    }

    private void layGarden() {
        if (by.nextInt(3) > 0) {
            int w = 2 + by.nextInt(5), h = 2 + by.nextInt(5);
            due("garden(" + w + ", " + h + ")", x.garden(w, h), m.garden(w, h));
        }
        int hedges = by.nextInt(9), fountains = by.nextInt(3), people = 1 + by.nextInt(5);
        for (int k = 0; k < hedges; k++) {
            setOne(0, square(), true);
        }
        for (int k = 0; k < fountains; k++) {
            setOne(1, square(), true);
        }
        for (int k = 0; k < people; k++) {
            addPerson();
        }
    }

    private void setOne(int what, int q, boolean is) {
        due("set(" + what + ", " + q + ", " + is + ")", x.set(what, q, is), m.set(what, q, is));
    }

    private void addPerson() {
        int kind = by.nextInt(3) == 0 ? some(5) : by.nextInt(2) == 0 ? 0 : 3, q = square(), voice = some(9);
        due("person(" + kind + ", " + q + ", " + voice + ")", x.person(kind, q, voice), m.person(kind, q, voice));
    }

    private void call() {
        int dice = by.nextInt(40);
        if (dice < 12) {
            change(dice);
        } else if (dice < 18) {
            look(dice - 12);
        } else if (dice < 34) {
            ask(dice - 18);
        } else {
            keep(dice - 34);
        }
    }

    private void change(int dice) {
        switch (dice) {
            case 0 -> setOne(some(1), square(), by.nextInt(3) > 0);
            case 1 -> {
                int what = some(1), v = some(4) - 1;
                due("put(" + what + ", " + v + ")", x.put(what, v), m.put(what, v));
            }
            case 2 -> addPerson();
            case 3, 4, 5 -> {
                int p = human(), q = square();
                due("move(" + p + ", " + q + ")", x.move(p, q), m.move(p, q));
            }
            case 6, 7 -> {
                int a = human(), b = human();
                due("tell(" + a + ", " + b + ")", x.tell(a, b), m.tell(a, b));
            }
            case 8, 9 -> {
                int a = human(), what = some(3);
                due("report(" + a + ", " + what + ")", x.report(a, what), m.report(a, what));
            }
            case 10 -> {
                int what = some(1);
                due("clears(" + what + ")", x.clears(what), m.clears(what));
            }
            default -> readPlan();
        }
    }

    private void look(int dice) {
        switch (dice) {
            case 0, 1 -> {
                int p = square(), q = square();
                due("clear(" + p + ", " + q + ")", x.clear(p, q), m.clear(p, q));
            }
            case 2, 3 -> {
                int a = human(), b = human(), what = some(1);
                due("knows(" + a + ", " + b + ", " + what + ")", x.knows(a, b, what), m.knows(a, b, what));
            }
            case 4 -> {
                int p = human();
                due("where(" + p + ")", x.where(p), m.where(p));
                due("may()", x.may(), m.may());
            }
            default -> {
                int speak = group();
                due("judge(" + speak + ")", x.judge(speak), m.judge(speak));
            }
        }
    }

    private void ask(int dice) {
        int p = human(), some = group();
        switch (dice) {
            case 0 -> due("told(" + some + ")", x.told(some), m.told(some));
            case 1 -> due("winds(" + some + ")", x.winds(some), m.winds(some));
            case 2, 3 -> due("place(" + p + ", " + some + ")", x.place(p, some), m.place(p, some));
            case 4, 5, 6, 7 -> {
                int q = square(), i = some(12) - 1;
                String walk = "walk(" + p + ", " + q + ", " + some + ", ";
                due(walk + i + ")", x.walk(p, q, some, i), m.walk(p, q, some, i));
                due(walk + "-1)", x.walk(p, q, some, -1), m.walk(p, q, some, -1));
            }
            case 8, 9 -> {
                int what = some(1);
                due("parade(" + p + ", " + what + ")", x.parade(p, what), m.parade(p, what));
            }
            case 10, 11 -> due("lesson(" + p + ", " + some + ")", x.lesson(p, some), m.lesson(p, some));
            case 12 -> due("speakers()", x.speakers(), m.speakers());
            case 13 -> {
                int what = some(1);
                due("best(" + what + ")", x.best(what), m.best(what));
            }
            case 14 -> {
                int kind = some(5);
                due("worth(" + p + ", " + kind + ")", x.worth(p, kind), m.worth(p, kind));
            }
            default -> {
                int i = some(10) - 1;
                due("spots(" + p + ", " + i + ")", x.spots(p, i), m.spots(p, i));
            }
        }
    }

    private void keep(int dice) {
        int i = some(1), what = some(6);
        switch (dice) {
            case 0 -> due("image(" + i + ")", x.image(i), m.image(i));
            case 1 -> due("from(" + i + ")", x.from(i), m.from(i));
            case 2, 3 -> due("status(" + what / 2 + ")", x.status(what / 2), m.status(what / 2));
            default -> due("count(" + what + ")", x.count(what), m.count(what));
        }
    }

    /** A plan with blanks by chance, in one of three cases with a byte that is another, gone or more. */
    private void readPlan() {
        StringBuilder plan = new StringBuilder("garden " + (2 + by.nextInt(5)) + " " + (2 + by.nextInt(5)) + ";");
        int items = by.nextInt(18);
        for (int k = 0; k < items; k++) {
            plan.append(item());
        }
        if (by.nextInt(3) == 0) {
            String bytes = "abdeghnrw 0123456789-;; \n\u00ff";
            int at = by.nextInt(plan.length());
            char c = bytes.charAt(by.nextInt(bytes.length()));
            switch (by.nextInt(4)) {
                case 0 -> plan.setCharAt(at, c);
                case 1 -> plan.insert(at, c);
                case 2 -> plan.deleteCharAt(at);
                default -> plan.setLength(at);
            }
        }
        if (by.nextInt(4) > 0) {
            due("wipe()", x.wipe(), m.wipe());
        }
        typeAll(plan.toString());
        due("read() of " + m.text, x.read(), m.read());
    }

    private String item() {
        String blank = by.nextInt(5) == 0 ? "  " : " ";
        int q = by.nextInt(12);
        return switch (by.nextInt(8)) {
            case 0 -> "hedge" + blank + q + ";";
            case 1 -> "fountain " + q + blank + ";";
            case 2 -> "drown " + by.nextInt(5) + ";" + blank;
            case 3 -> by.nextBoolean() ? "wind - 1;" : "wind " + by.nextInt(2) + ";";
            case 4, 5, 6 -> "person " + by.nextInt(6) + blank + q + " " + by.nextInt(10) + ";";
            default -> "tell " + by.nextInt(3) + " 0" + by.nextInt(4) + ";";
        };
    }

    private void typeAll(String text) {
        byte[] bytes = text.getBytes(StandardCharsets.ISO_8859_1);
        int at = 0;
        while (at < bytes.length) {
            int n = Math.min(bytes.length - at, 3 + by.nextInt(6));
            long v = by.nextLong();
            for (int k = 0; k < n; k++) {
                v = v << 8 | bytes[at + k] & 255;
            }
            due("type(" + v + ", " + n + ")", x.type(v, n), m.type(v, n));
            at += n;
        }
    }
}
