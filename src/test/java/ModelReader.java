import java.nio.charset.StandardCharsets;
import java.util.ArrayList;
import java.util.List;
import java.util.regex.Matcher;
import java.util.regex.Pattern;

/** Model's texts, by recursive descent over all TOKENS of a text at once. */
final class ModelReader {
    static final class Fault extends Exception {
        private static final long serialVersionUID = 1L;
        final int what;
        final int place;

        Fault(int what, int place) {
            this.what = what;
            this.place = place;
        }
    }

    record Token(String text, int place) { }

    private static final Pattern TOKEN = Pattern.compile("[A-Za-z]+|[0-9]+|[^ \n]");
    private static final String READINGS = " house owed waited snow oil season people needs ";

    private final int k;
    private final int houses;
    private final List<Token> tokens = new ArrayList<>();
    private int at = 0;
    private int open = 0;

    final List<Model.LawLine> lines = new ArrayList<>();
    final List<Model.Path> paths = new ArrayList<>();
    final List<Model.Need> needs = new ArrayList<>();
    List<Integer> round = new ArrayList<>();

    ModelReader(byte[] bytes, int k, int houses) {
        this.k = k;
        this.houses = houses;
        String text = new String(bytes, StandardCharsets.ISO_8859_1);
        Matcher m = TOKEN.matcher(text);
        while (m.find()) tokens.add(new Token(m.group(), m.start()));
        tokens.add(new Token("", text.length()));
    }

    private Token now() {
        return tokens.get(at);
    }

    private boolean is(String text) {
        return now().text.equals(text);
    }

    private boolean ended() {
        return at == tokens.size() - 1;
    }

    private Fault wrong() {
        return new Fault(1, now().place);
    }

    private void take(String text) throws Fault {
        if (!is(text)) throw wrong();
        at++;
    }

    private boolean isNumber() {
        return now().text.matches("[0-9]{1,4}");
    }

    private int number(int least, int most) throws Fault {
        if (!isNumber()) throw wrong();
        int v = Integer.parseInt(now().text);
        if (v < least || v > most) throw new Fault(2, now().place);
        at++;
        return v;
    }

    int read() throws Fault {
        if (k == 4) {
            List<Integer> nights = nights(0);
            if (!ended()) throw wrong();
            if (nights.size() > 200) throw new Fault(4, now().place);
            round = nights;
            return round.size();
        }
        int count = 0;
        while (!ended()) {
            String word = k == 0 ? "turn" : k == 1 ? "burn" : k == 2 ? "path" : "need";
            if (!is(word)) throw wrong();
            if (count == (k < 2 ? 16 : k == 2 ? 40 : 10)) throw new Fault(3, now().place);
            at++;
            if (k < 2) law();
            if (k == 2) path();
            if (k == 3) need();
            take(";");
            count++;
        }
        return count;
    }

    private void path() throws Fault {
        int a = number(0, houses - 1);
        take("to");
        int b = number(0, houses - 1);
        take("in");
        int n = number(1, 99);
        int until = 9;
        if (is("until")) {
            at++;
            until = number(0, 9);
        }
        paths.add(new Model.Path(a, b, n, until));
    }

    private void need() throws Fault {
        Model.Need n = new Model.Need();
        n.kind = List.of("birth", "read", "mend", "bride").indexOf(now().text);
        if (n.kind < 0) throw wrong();
        at++;
        take("at");
        n.at = number(0, houses - 1);
        take("from");
        n.from = number(0, 9999);
        take("to");
        n.to = number(n.from, 9999);
        take("worth");
        n.worth = number(1, 99);
        needs.add(n);
    }

    private List<Integer> nights(int depth) throws Fault {
        List<Integer> list = new ArrayList<>();
        while (true) {
            if (is("go")) {
                at++;
                list.add(number(0, houses - 1));
                take(";");
            } else if (is("stay")) {
                at++;
                int n = number(1, 60);
                for (int i = 0; i < n; i++) list.add(-1);
                take(";");
            } else if (is("again")) {
                if (depth == 4) throw new Fault(3, now().place);
                at++;
                int n = number(1, 9);
                take("(");
                List<Integer> inner = nights(depth + 1);
                take(")");
                for (int i = 0; i < n; i++) list.addAll(inner);
            } else {
                return list;
            }
        }
    }

    private void law() throws Fault {
        Model.Expression e = sum();
        Model.Expression when = null;
        if (is("when")) {
            at++;
            when = either();
        }
        lines.add(new Model.LawLine(e, when));
    }

    private Model.Expression either() throws Fault {
        Model.Expression left = both();
        while (is("or")) {
            at++;
            Model.Expression a = left, b = both();
            left = (w, h) -> a.at(w, h) != 0 || b.at(w, h) != 0 ? 1 : 0;
        }
        return left;
    }

    private Model.Expression both() throws Fault {
        Model.Expression left = condition();
        while (is("and")) {
            at++;
            Model.Expression a = left, b = condition();
            left = (w, h) -> a.at(w, h) != 0 && b.at(w, h) != 0 ? 1 : 0;
        }
        return left;
    }

    private Model.Expression condition() throws Fault {
        if (is("not") || is("(")) {
            if (open == 8) throw new Fault(3, now().place);
            open++;
            boolean not = is("not");
            at++;
            Model.Expression inner = not ? condition() : either();
            if (!not) take(")");
            open--;
            return not ? (w, h) -> 1 - inner.at(w, h) : inner;
        }
        Model.Expression a = sum();
        String sign = now().text;
        if (!is("<") && !is("=") && !is(">")) throw wrong();
        at++;
        Model.Expression b = sum();
        return (w, h) -> {
            int c = Integer.compare(a.at(w, h), b.at(w, h));
            return (sign.equals("<") ? c < 0 : sign.equals("=") ? c == 0 : c > 0) ? 1 : 0;
        };
    }

    private Model.Expression sum() throws Fault {
        Model.Expression left = product();
        while (is("+") || is("-")) {
            int sign = is("+") ? 1 : -1;
            at++;
            Model.Expression a = left, b = product();
            left = (w, h) -> a.at(w, h) + sign * b.at(w, h);
        }
        return left;
    }

    private Model.Expression product() throws Fault {
        Model.Expression left = unit();
        while (is("*") || is("/")) {
            boolean times = is("*");
            at++;
            Model.Expression a = left;
            if (times) {
                Model.Expression b = unit();
                left = (w, h) -> a.at(w, h) * b.at(w, h);
            } else {
                int part = number(1, 9999);
                left = (w, h) -> a.at(w, h) / part;
            }
        }
        return left;
    }

    private Model.Expression unit() throws Fault {
        if (isNumber()) {
            int v = number(0, 9999);
            return (w, h) -> v;
        }
        String word = now().text;
        boolean known = READINGS.contains(" " + word + " ") || (k == 0 && (word.equals("far") || word.equals("bid")));
        if (word.isEmpty() || !known) throw wrong();
        at++;
        return (w, h) -> reading(word, w, h);
    }

    private static int reading(String word, Model.World w, int h) {
        Model.House x = w.houses.get(h);
        switch (word) {
            case "house": return h;
            case "owed": return x.owed;
            case "waited": return w.waited(h);
            case "snow": return w.snow;
            case "oil": return x.oil;
            case "season": return w.night % 120 / 30;
            case "people": return x.people;
            case "needs":
                int sum = 0;
                for (Model.Need n : w.needs) if (n.at == h && w.open(n)) sum += n.worth;
                return sum;
            case "far":
                Integer f = w.far(w.lamp, h, w.snow);
                return f == null ? 99 : f;
            default: return x.bid;
        }
    }
}
