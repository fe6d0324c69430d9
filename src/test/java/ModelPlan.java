import java.util.ArrayList;
import java.util.List;
import java.util.regex.Matcher;
import java.util.regex.Pattern;

/** The plan's text, cut into tokens by a pattern first; an item's numbers are looked at one by one. */
final class ModelPlan {
    private static final Pattern TOKEN = Pattern.compile("[a-z]+|[0-9]+|[^ ]", Pattern.DOTALL);
    private final List<String> tokens = new ArrayList<>();
    private final List<Integer> places = new ArrayList<>();
    private int next;
    int fault = -1;

    /** Says that the token just looked at can not stand there. */
    private static final class Fault extends Exception {
        private static final long serialVersionUID = 1;
    }

    ModelPlan(String text) {
        Matcher m = TOKEN.matcher(text);
        while (m.find()) {
            tokens.add(m.group());
            places.add(m.start());
        }
        tokens.add("");
        places.add(text.length());
    }

    Model.State lay() {
        Model.State s = new Model.State();
        try {
            need(take().equals("garden"));
            s.w = number(2, 6);
            s.h = number(2, 6);
            need(take().equals(";"));
            while (!tokens.get(next).isEmpty()) {
                item(s, take());
                need(take().equals(";"));
            }
            return s;
        } catch (Fault f) {
            fault = places.get(next - 1);
            return null;
        }
    }

    private String take() {
        return tokens.get(next++);
    }

    private void need(boolean is) throws Fault {
        if (!is) {
            throw new Fault();
        }
    }

    private int number(int least, int most) throws Fault {
        String token = take();
        need(token.matches("[0-9]{1,2}"));
        int v = Integer.parseInt(token);
        need(v >= least && v <= most);
        return v;
    }

    private void item(Model.State s, String word) throws Fault {
        int last = s.w * s.h - 1;
        switch (word) {
            case "hedge" -> {
                int q = number(0, last);
                need(s.isFree(q));
                s.hedges.add(q);
            }
            case "fountain" -> s.fountains.add(number(0, last));
            case "drown" -> s.drown = number(0, 4);
            case "wind" -> {
                boolean below = tokens.get(next).equals("-");
                if (below) {
                    take();
                }
                s.wind = below ? -number(1, 1) : number(0, 1);
            }
            case "person" -> {
                need(s.people.size() < 5);
                int kind = number(0, 5);
                int q = number(0, last);
                need(s.isFree(q));
                s.people.add(new Model.Human(kind, q, number(0, 9)));
            }
            case "tell" -> {
                need(s.tellings.size() < 6);
                int a = number(0, s.people.size() - 1);
                int b = number(0, s.people.size() - 1);
                need(a != b);
                s.tellings.add(new int[] {a, b});
            }
            default -> need(false);
        }
    }
}
