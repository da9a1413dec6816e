import java.util.ArrayList;
import java.util.List;

/** Villages that tests begin with, and all that one answers. */
final class Villages {
    private static final int[] LOOKS = {0, 1, 2, 3, 4, 5, 6, 7, 8, 9, 10, 11, 20, 21, 22, 23, 24};

    private Villages() {
    }

    /** HOUSES 0 .. n - 1 in a row, each with that OIL and one of PEOPLE. */
    static LampRound row(int n, int oil) {
        LampRound x = new LampRound();
        for (int i = 0; i < n; i++) x.house(i, 1, oil);
        return x;
    }

    /** The same, each with a PATH in 1 to the next one. */
    static LampRound street(int n, int oil) {
        LampRound x = row(n, oil);
        StringBuilder s = new StringBuilder();
        for (int i = 0; i + 1 < n; i++) s.append("path " + i + " to " + (i + 1) + " in 1;");
        Due.tell(x, 2, s.toString());
        return x;
    }

    /** All is told, NIGHTS have passed since THE IMAGE, the latest text had a FAULT, another one waits. */
    static LampRound busy() {
        LampRound x = new LampRound();
        x.house(0, 2, 50);
        x.house(2, 4, 30);
        x.house(20, 1, 3);
        Due.tell(x, 2, "path 0 to 1 in 5;path 1 to 2 in 7 until 3;path 0 to 2 in 30;");
        Due.tell(x, 3, "need birth at 1 from 0 to 2 worth 10;need bride at 0 from 0 to 9 worth 40;"
            + "need read at 2 from 6 to 12 worth 30;");
        Due.tell(x, 4, "go 0;stay 2;go 1;again 2(go 2;go 0;)");
        Due.tell(x, 0, "turn owed*10+needs-far when not(house=2 and snow>3);turn 0-bid;");
        Due.tell(x, 1, "burn 2 when oil>20;burn 1+snow;");
        x.friends(0, 1, true);
        x.friends(1, 2, true);
        int[][] sets = {{1, 0, 400}, {2, 0, 1}, {3, 0, 15}, {4, 0, 2}, {8, 1, 3}, {9, 0, 5}, {9, 2, 7}, {10, 1, 4}};
        for (int[] s : sets) x.set(s[0], s[1], s[2]);
        x.state(12345);
        x.clue(0, 3);
        x.clue(2, 6);
        x.nights(2);
        x.image(true);
        x.nights(3);
        Due.tell(x, 2, "path 0 to 1 in 0;");
        Due.put(x, "turn 7;turn 8;");
        return x;
    }

    /** What a busy village answers now, then by its TAPE, by NIGHTS undone and by THE IMAGE. */
    static List<String> answers(LampRound x) {
        List<String> all = new ArrayList<>();
        now(x, all);
        all.add("fault(0) = " + x.fault(0));
        all.add("fault(1) = " + x.fault(1));
        all.add("end(400) = " + x.end(400));
        all.add("text(0) = " + x.text(0));
        all.add("fault(0) then = " + x.fault(0));
        for (int i = 0; i < 4; i++) {
            all.add("undo() = " + x.undo());
            few(x, all, "undone " + i);
        }
        all.add("image(false) = " + x.image(false));
        few(x, all, "by the image");
        all.add("nights(4) = " + x.nights(4));
        few(x, all, "nights after it");
        return all;
    }

    private static void few(LampRound x, List<String> all, String when) {
        for (int what : LOOKS) all.add(when + " look(" + what + ") = " + x.look(what));
        for (int h = 0; h < 3; h++) all.add(when + " of(" + h + ", 2) = " + x.of(h, 2));
    }

    private static void now(LampRound x, List<String> all) {
        for (int what : LOOKS) all.add("look(" + what + ") = " + x.look(what));
        for (int h = 0; h < 4; h++)
            for (int what = 0; what < 14; what++) all.add("of(" + h + ", " + what + ") = " + x.of(h, what));
        for (int h = 0; h < 3; h++) {
            for (int g = h; g < 3; g++) all.add("far(" + h + ", " + g + ") = " + x.far(h, g));
            for (int what = 0; what < 8; what++) all.add("need(" + h + ", " + what + ") = " + x.need(h, what));
            all.add("mend(" + h + ") = " + x.mend(h));
            all.add("rooms(1" + h + ") = " + x.rooms(10 + h));
            all.add("best(" + h + ", 3) = " + x.best(h, 3));
            all.add("been(3, " + h + ") = " + x.been(3, h));
            all.add("plan(3, 1" + h + ") = " + x.plan(3, 10 + h));
        }
        for (int i = 0; i < 6; i++)
            for (int what = 0; what < 6; what++) all.add("book(" + i + ", " + what + ") = " + x.book(i, what));
        for (int what = 0; what < 4; what++) all.add("run(9, " + what + ") = " + x.run(9, what));
        for (int what = 0; what < 2; what++) {
            all.add("plan(3, " + what + ") = " + x.plan(3, what));
            all.add("sale(" + what + ") = " + x.sale(what));
            all.add("ask(3, " + what + ") = " + x.ask(3, what));
        }
        all.add("mend(-1) = " + x.mend(-1));
        all.add("rooms(0) = " + x.rooms(0));
        all.add("liars() = " + x.liars());
        all.add("sure(0, 2, 3) = " + x.sure(0, 2, 3));
        all.add("ways(3) = " + x.ways(3));
    }
}
