import java.util.ArrayList;
import java.util.List;
import java.util.Random;

/** Runs of drawn calls, the same ones every time, on LampRound and on Model: both answer alike. */
public final class ModelTest {
    private static final int RUNS = 500;
    private static final int CALLS = 512;
    private static final String[] LAW_WORDS = {"house", "owed", "waited", "snow", "oil", "season", "people", "needs",
        "far", "bid"};

    private final Random random;
    private final LampRound lamp = new LampRound();
    private final Model model = new Model();
    private final List<String> log = new ArrayList<>();
    private int calls = 0;
    private int wrong = 0;

    private ModelTest(long seed) {
        random = new Random(seed);
    }

    public static void main(String[] args) {
        int runs = args.length > 0 ? Integer.parseInt(args[0]) : RUNS;
        int wrong = 0;
        for (int run = 0; run < runs; run++) {
            ModelTest test = new ModelTest(run);
            test.run(run % 3 == 0 ? 10 : run % 3 == 1 ? 3 : 5);
            if (test.wrong > 0) {
                wrong++;
                System.out.println("run " + run + ":");
                int from = Math.max(0, test.log.size() - 40);
                for (String line : test.log.subList(from, test.log.size())) System.out.println("  " + line);
                if (wrong > 2) break;
            }
        }
        System.out.println(wrong == 0 ? "all runs agree with the model" : wrong + " runs do not agree with the model");
        if (wrong != 0) System.exit(1);
    }

    private int pick(int least, int most) {
        return least + random.nextInt(most - least + 1);
    }

    /** Mostly within the bounds, sometimes beyond them. */
    private int about(int least, int most) {
        if (random.nextInt(12) == 0) {
            int[] odd = {least - 1, most + 1, -1, Integer.MIN_VALUE, Integer.MAX_VALUE, least, most};
            return odd[random.nextInt(odd.length)];
        }
        return pick(least, most);
    }

    /** Mostly a HOUSE that there is. */
    private int aHouse() {
        return about(0, Math.max(0, model.n() - 1));
    }

    private boolean chance(int of) {
        return random.nextInt(of) == 0;
    }

    private void due(String call, long got, long want) {
        calls++;
        // What an object answers beyond its last call is free.
        if (calls > CALLS) return;
        log.add(call + " = " + got + (got == want ? "" : ", the model says " + want));
        if (got != want) wrong++;
    }

    private void due(String call, boolean got, boolean want) {
        due(call, got ? 1 : 0, want ? 1 : 0);
    }

    private void run(int houses) {
        for (int i = 0; i < 40 && model.n() < houses; i++) {
            int place = about(0, 63), people = about(1, 20), oil = chance(3) ? about(0, 9) : about(0, 999);
            due("house " + place + " " + people + " " + oil, lamp.house(place, people, oil),
                model.house(place, people, oil));
        }
        tell(2, pathText());
        if (chance(2)) tell(3, needText());
        while (calls < CALLS && wrong == 0) {
            if (chance(3)) change();
            else question();
        }
    }

    private void tell(int k, String text) {
        byte[] bytes = text.getBytes(java.nio.charset.StandardCharsets.ISO_8859_1);
        for (int i = 0; i < bytes.length; i += 20) {
            int[] five = new int[5];
            for (int j = 0; j < 20; j++) {
                int b = i + j < bytes.length ? bytes[i + j] & 255 : 32;
                five[j / 4] = five[j / 4] << 8 | b;
            }
            due("feed", lamp.feed(five[0], five[1], five[2], five[3], five[4]), model.feed(five));
        }
        if (!chance(40)) due("end " + bytes.length, lamp.end(bytes.length), model.end(bytes.length));
        int which = chance(60) ? about(-1, 6) : k;
        due("text " + which + " [" + text + "]", lamp.text(which), model.text(which));
        due("fault 0", lamp.fault(0), model.fault(0));
        due("fault 1", lamp.fault(1), model.fault(1));
    }

    private String blank() {
        return chance(8) ? "  " : chance(8) ? "\n" : " ";
    }

    private int someHouse() {
        int n = model.n();
        return chance(60) ? pick(0, 12) : n == 0 ? 0 : pick(0, n - 1);
    }

    private int someNumber(int least, int most) {
        return chance(60) ? pick(0, 10001) : pick(least, most);
    }

    private String spoil(String text) {
        if (!chance(4) || text.isEmpty()) return text.length() > 400 ? text.substring(0, 400) : text;
        StringBuilder s = new StringBuilder(text);
        int times = pick(1, 2);
        for (int i = 0; i < times; i++) {
            int at = random.nextInt(s.length() + 1);
            String junk = ";+-*/()<=>.{0123456789 \nabz\u00e9\u0000ABZ~";
            int how = random.nextInt(4);
            if (how == 0) s.insert(at, junk.charAt(random.nextInt(junk.length())));
            else if (how == 1 && at < s.length()) s.deleteCharAt(at);
            else if (how == 2 && at < s.length()) s.setCharAt(at, junk.charAt(random.nextInt(junk.length())));
            else if (how == 3) s.setLength(at);
        }
        return s.length() > 400 ? s.substring(0, 400) : s.toString();
    }

    private String pathText() {
        StringBuilder s = new StringBuilder();
        int n = chance(20) ? pick(18, 42) : pick(0, 18);
        for (int i = 0; i < n && s.length() < 370; i++) {
            s.append("path").append(n > 18 ? "" : " ").append(someHouse()).append(n > 18 ? "to" : " to ").append(someHouse())
                .append(n > 18 ? "in" : blank() + "in ").append(someNumber(1, chance(4) ? 99 : 20));
            if (chance(3) && n <= 18) s.append(blank()).append("until ").append(someNumber(0, 9));
            s.append(";");
        }
        return spoil(s.toString());
    }

    private String needText() {
        StringBuilder s = new StringBuilder();
        String[] kinds = {"birth", "read", "mend", "bride"};
        int n = chance(10) ? 12 : pick(0, 10);
        for (int i = 0; i < n && s.length() < 360; i++) {
            int from = Math.max(0, model.w.night + pick(-3, 12));
            int to = from + pick(chance(30) ? -1 : 0, 9);
            boolean tight = n > 8;
            String gap = tight ? "" : " ";
            s.append("need ").append(kinds[random.nextInt(4)]).append(tight ? " " : blank()).append("at").append(gap)
                .append(someHouse()).append(gap).append("from").append(gap).append(from).append(gap).append("to")
                .append(gap).append(Math.max(0, to)).append(gap).append("worth").append(gap)
                .append(someNumber(1, chance(2) ? 99 : 3)).append(";");
        }
        return spoil(s.toString());
    }

    private String roundText(int depth) {
        StringBuilder s = new StringBuilder();
        int n = pick(0, 4);
        for (int i = 0; i < n && s.length() < 150; i++) {
            int kind = random.nextInt(4);
            if (kind < 2) s.append("go ").append(someHouse()).append(";");
            else if (kind == 2) s.append("stay ").append(someNumber(1, chance(4) ? 60 : 4)).append(" ;");
            else if (depth < 5) s.append("again ").append(someNumber(1, 9)).append(blank()).append("(")
                .append(roundText(depth + 1)).append(")");
        }
        return depth == 0 ? spoil(s.toString()) : s.toString();
    }

    private String lawText(int k) {
        StringBuilder s = new StringBuilder();
        int n = chance(8) ? 18 : pick(0, 4);
        for (int i = 0; i < n && s.length() < 340; i++) {
            s.append(k == 0 ? "turn " : "burn ").append(n > 10 ? "1" : sum(k));
            if (chance(2) && n <= 10) s.append(" when ").append(condition(k, 0));
            s.append(";");
        }
        return spoil(s.toString());
    }

    private String sum(int k) {
        StringBuilder s = new StringBuilder(unit(k));
        int n = random.nextInt(4);
        for (int i = 0; i < n; i++) {
            int sign = random.nextInt(4);
            if (sign == 3) s.append("/").append(someNumber(chance(20) ? 0 : 1, 40));
            else s.append("+-*".charAt(sign)).append(unit(k));
        }
        return s.toString();
    }

    private String unit(int k) {
        if (chance(3)) return "" + someNumber(0, chance(3) ? 9999 : 12);
        return LAW_WORDS[random.nextInt(k == 0 || chance(30) ? 10 : 8)];
    }

    private String condition(int k, int depth) {
        int kind = depth > 9 ? 5 : random.nextInt(7);
        if (kind == 0) return condition(k, depth + 1) + " or " + condition(k, depth + 1);
        if (kind == 1) return condition(k, depth + 1) + " and " + condition(k, depth + 1);
        if (kind == 2) return "not " + condition(k, depth + 1);
        if (kind == 3) return "(" + condition(k, depth + 1) + ")";
        if (chance(12)) return "(".repeat(pick(1, 9)) + "1=1" + ")".repeat(pick(1, 9));
        return sum(k) + "<=>".charAt(random.nextInt(3)) + sum(k);
    }

    private void change() {
        switch (random.nextInt(16)) {
            case 0: {
                int v = chance(2) ? random.nextInt() : pick(0, 9);
                due("state " + v, lamp.state(v), model.state(v));
                break;
            }
            case 1: {
                if (model.n() > 7 || chance(3)) break;
                int place = about(0, 63);
                due("house " + place, lamp.house(place, 3, 90), model.house(place, 3, 90));
                break;
            }
            case 2:
            case 3:
            case 4: {
                int[] most = {9, 1000, 99, 99, 99, 9, 20, 999, 99, 99, 9999};
                int what = about(0, 10), who = aHouse();
                int bound = what >= 0 && what <= 10 ? most[what] : 9;
                int v = chance(2) ? about(0, Math.min(bound, 9)) : about(0, bound);
                if (what == 3 && chance(2)) v = pick(15, 60);
                if (what == 7 && chance(2)) v = pick(50, 999);
                if (what == 5) v = aHouse();
                if (what == 10 && model.is(who) && chance(2)) v = model.w.houses.get(who).had;
                due("set " + what + " " + who + " " + v, lamp.set(what, who, v), model.set(what, who, v));
                break;
            }
            case 5: {
                int a = aHouse(), b = aHouse();
                boolean are = !chance(3);
                due("friends " + a + " " + b + " " + are, lamp.friends(a, b, are), model.friends(a, b, are));
                break;
            }
            case 6:
                if (chance(2)) tell(2, pathText());
                break;
            case 7:
                if (chance(2)) tell(3, needText());
                break;
            case 8:
                if (chance(2)) tell(4, roundText(0));
                break;
            case 9: {
                int k = random.nextInt(2);
                tell(k, lawText(k));
                break;
            }
            case 10:
            case 11:
            case 12: {
                int n = chance(3) ? about(1, 60) : about(1, 4);
                due("nights " + n, lamp.nights(n), model.nights(n));
                break;
            }
            case 13: {
                int times = chance(3) ? 7 : 1;
                for (int i = 0; i < times; i++) due("undo", lamp.undo(), model.undo());
                break;
            }
            case 14: {
                boolean taken = chance(2);
                due("image " + taken, lamp.image(taken), model.image(taken));
                break;
            }
            default: {
                int night = chance(8) ? -1 : about(0, chance(2) ? 9 : 2), set = about(1, chance(6) ? 1100 : (1 << model.n()) - 1 + (model.n() == 0 ? 1 : 0));
                due("clue " + night + " " + set, lamp.clue(night, set), model.clue(night, set));
            }
        }
    }

    /** As many NIGHTS as trying all rows allows. */
    private int rowNights() {
        int n = model.n();
        int most = n <= 1 ? 10 : n == 2 ? 10 : n == 3 ? 7 : n <= 5 ? 5 : 4;
        return chance(12) ? (chance(2) ? 0 : 11) : pick(1, most);
    }

    private void question() {
        int h = aHouse(), g = aHouse();
        switch (random.nextInt(20)) {
            case 0:
            case 1:
            case 2:
            case 3: {
                int what = about(0, 13);
                due("of " + h + " " + what, lamp.of(h, what), model.of(h, what));
                break;
            }
            case 4:
                due("far " + h + " " + g, lamp.far(h, g), model.far(h, g));
                break;
            case 5: {
                int i = about(0, Math.max(0, model.w.needs.size() - 1)), what = about(0, 7);
                due("need " + i + " " + what, lamp.need(i, what), model.need(i, what));
                break;
            }
            case 6: {
                int lines = model.w.book.size();
                int i = about(Math.max(0, lines - 6), Math.max(0, lines)), what = about(0, 5);
                due("book " + i + " " + what, lamp.book(i, what), model.book(i, what));
                break;
            }
            case 7: {
                int n = chance(4) ? about(1, 99) : about(1, 12), what = about(0, 3);
                due("run " + n + " " + what, lamp.run(n, what), model.run(n, what));
                break;
            }
            case 8:
            case 9:
            case 10: {
                int n = chance(10) ? pick(5, 10) : rowNights();
                int what = chance(2) ? about(0, 1) : about(10, 10 + Math.max(1, n));
                due("plan " + n + " " + what, lamp.plan(n, what), model.plan(n, what));
                break;
            }
            case 11: {
                int who = chance(3) ? -1 : h;
                due("mend " + who, lamp.mend(who), model.mend(who));
                break;
            }
            case 12: {
                int what = chance(3) ? about(0, 1) : about(10, 9 + Math.max(1, model.n()));
                due("rooms " + what, lamp.rooms(what), model.rooms(what));
                break;
            }
            case 13: {
                int what = about(0, 1);
                due("sale " + what, lamp.sale(what), model.sale(what));
                break;
            }
            case 14:
                due("liars", lamp.liars(), model.liars());
                break;
            case 15: {
                int k = about(1, 9);
                due("sure " + h + " " + g + " " + k, lamp.sure(h, g, k), model.sure(h, g, k));
                break;
            }
            case 16: {
                int k = about(1, 9);
                due("best " + g + " " + k, lamp.best(g, k), model.best(g, k));
                break;
            }
            case 17:
                rows();
                break;
            default: {
                int what = about(0, 24);
                due("look " + what, lamp.look(what), model.look(what));
            }
        }
    }

    private void rows() {
        int n = rowNights();
        due("ways " + n, lamp.ways(n), model.ways(n));
        int night = about(0, Math.max(0, n - 1));
        due("been " + n + " " + night, lamp.been(n, night), model.been(n, night));
        int what = about(0, 1);
        due("ask " + n + " " + what, lamp.ask(n, what), model.ask(n, what));
    }
}
