/** Boundaries of the TAPE, of numbers in texts, and of how much a text may hold. */
final class TextBounds {
    private static final int NONE = BoundsTest.NONE, MIN = BoundsTest.MIN, MAX = BoundsTest.MAX;

    private final BoundsTest test;
    private final Due due;
    private final Doc doc;

    TextBounds(BoundsTest test) {
        this.test = test;
        due = test.due;
        doc = test.doc;
    }

    void check() {
        feed();
        feedIsRefused();
        end();
        text();
        textStays();
        fault();
        emptyTexts();
        pathNumbers();
        pathSnow();
        needNumbers();
        toldAnew();
        roundNumbers();
        partByZero();
        firstFault();
        mostLines();
        mostOpen();
        mostAgain();
        mostNights();
    }

    private static int feedBlanks(LampRound x) {
        return x.feed(0x20202020, 0x20202020, 0x20202020, 0x20202020, 0x20202020);
    }

    private void feed() {
        doc.says("`int feed(int a, int b, int c, int d, int e)`: Twenty bytes come behind the TAPE, of each number the highest "
            + "first: how many it has.");
        LampRound x = Villages.row(1, 0);
        // "turn 1+2*3-4+5-6+7;\n": each of the five numbers and each of its bytes at its own place.
        due.is("feed", x.feed(0x7475726e, 0x20312b32, 0x2a332d34, 0x2b352d36, 0x2b373b0a), 20);
        due.is("text(0)", x.text(0), 1);
        due.is("the sum", x.of(0, 8), 1 + 2 * 3 - 4 + 5 - 6 + 7);
        // Behind what is there: "turn" and blanks, then "9;".
        due.is("feed", x.feed(0x7475726e, 0x20202020, 0x20202020, 0x20202020, 0x20202020), 20);
        due.is("feed", x.feed(0x20202020, 0x20202020, 0x20202020, 0x20202020, 0x2020393b), 40);
        due.is("text(0)", x.text(0), 1);
        due.is("the sum", x.of(0, 8), 9);
        // Numbers below 0, of whose bytes the highest is above 127.
        due.is("feed", x.feed(0x7475726e, 0x2037ff20, 0x80ffffff, MIN, -1), 20);
        due.is("text(0)", x.text(0), NONE);
        due.is("its place", x.fault(1), 6);
        x.feed(0x7475726e, 0x20373b20, 0xa0202020, MIN, -1);
        due.is("text(0)", x.text(0), NONE);
        due.is("its place", x.fault(1), 8);
    }

    private void feedIsRefused() {
        doc.says("NONE, and nothing comes, if there would be more than 400.");
        LampRound x = Villages.row(1, 0);
        for (int i = 1; i <= 20; i++) due.is("feed " + i, feedBlanks(x), 20 * i);
        due.is("420", feedBlanks(x), NONE);
        due.no("401 are not there", x.end(401));
        due.yes("400 are", x.end(400));
        for (int n : new int[] {399, 390, 382, 381}) {
            due.yes("end(" + n + ")", x.end(n));
            due.is(n + " and 20", x.feed(-1, -1, -1, -1, -1), NONE);
            due.no(n + " and 1 are not there", x.end(n + 1));
        }
        due.yes("end(380)", x.end(380));
        due.is("380 and 20", feedBlanks(x), 400);
        due.is("nothing of what was refused", x.text(0), 0);
        test.changesNothing("feed beyond 400", y -> {
            // The busy village's text waits on 14 bytes: 19 times more fill 394.
            for (int i = 0; i < 19; i++) feedBlanks(y);
            due.is("394 and 20", y.feed(-1, -1, -1, -1, -1), NONE);
        });
    }

    private void end() {
        doc.says("`boolean end(int n)`: The TAPE has its first n bytes alone: true; false, changing nothing, if it has not so "
            + "many, or n is below 0.");
        test.refused("end(_)", (x, n) -> x.end(n) ? 1 : 0, 0, -1, 15, 400, 401, MIN, MAX);
        LampRound x = Villages.row(1, 0);
        due.yes("end(0) of nothing", x.end(0));
        due.no("end(1) of nothing", x.end(1));
        Due.put(x, "turn 7+8;turn 9;");
        due.no("end(17)", x.end(17));
        due.yes("end(16)", x.end(16));
        due.yes("end(9)", x.end(9));
        due.no("end(10), which are gone", x.end(10));
        due.is("text(0)", x.text(0), 1);
        due.is("the sum", x.of(0, 8), 15);
        Due.put(x, "turn 7;");
        due.yes("end(6)", x.end(6));
        due.is("its first 6", x.text(0), NONE);
        due.is("end there", x.fault(1), 6);
        // Within a word, and within a number: what was behind is not there.
        Due.put(x, "turning");
        due.yes("end(4)", x.end(4));
        due.is("a word cut off", x.text(0), NONE);
        due.is("it ends there", x.fault(1), 4);
        Due.put(x, "turn 77;");
        due.yes("end(6)", x.end(6));
        due.is("a number cut off", x.text(0), NONE);
        due.is("it ends there", x.fault(1), 6);
        Due.put(x, "turn 7;");
        due.yes("end(0)", x.end(0));
        due.is("nothing", x.text(0), 0);
    }

    private void text() {
        doc.says("`int text(int k)`: The TAPE, empty then, is TEXT k: how many lines, PATHS, NEEDS, NIGHTS.");
        LampRound x = Villages.row(2, 0);
        String[] texts = {"turn 1;turn 2;", "burn 1;burn 2;burn 3;", "path 0 to 1 in 1;",
            "need read at 0 from 0 to 0 worth 1;need mend at 0 from 0 to 0 worth 1;", "go 1;stay 5;"};
        int[] counts = {2, 3, 1, 2, 6};
        for (int k = 0; k < 5; k++) {
            due.told(x, k, texts[k], counts[k]);
            due.no("empty then", x.end(1));
        }
        for (int k = 0; k < 5; k++) {
            due.fault(x, k, "?", 1, 0);
            due.no("empty then", x.end(1));
        }
        // The TAPE's last byte is a word's, a number's, a sign's, or a blank.
        LampRound z = Villages.row(2, 0);
        String full = "turn 1;" + " ".repeat(393);
        due.told(z, 0, full, 1);
        due.told(z, 0, " ".repeat(393) + "turn 1;", 1);
        for (String last : new String[] {"t", "tu", "tur", "turnt", "7", "?"})
            due.fault(z, 0, full.substring(0, 400 - last.length()) + last, 1, 400 - last.length());
        for (String last : new String[] {"turn", "turn 1", "turn 9999", "turn house", "turn 1 when 1=1"})
            due.fault(z, 0, full.substring(0, 400 - last.length()) + last, 1, 400);
        doc.says("NONE: no such one (fault() tells 0), or a FAULT (it stays as it was).");
        for (int k : new int[] {-1, 5, MIN, MAX}) {
            LampRound y = Villages.row(2, 0);
            due.fault(y, 0, "turn ?", 1, 5);
            Due.put(y, "turn 7;");
            due.is("text(" + k + ")", y.text(k), NONE);
            due.is("fault(0)", y.fault(0), 0);
            due.is("fault(1)", y.fault(1), NONE);
            for (int what = 5; what < 10; what++) due.is("look(" + what + ")", y.look(what), 0);
            due.no("empty then", y.end(1));
        }
    }

    /** With a FAULT only the TAPE and fault() are others. */
    private void textStays() {
        for (int k = 0; k < 5; k++) {
            LampRound x = Villages.busy(), y = Villages.busy();
            for (LampRound z : new LampRound[] {x, y}) z.end(0);
            String good = new String[] {"turn 3;", "burn 3;", "path 0 to 1 in 9;", "need read at 0 from 0 to 9 worth 9;",
                "go 0;"}[k];
            due.fault(y, k, good + "?", 1, good.length());
            Due.tell(x, 2, "path 0 to 1 in 0;");
            Due.tell(y, 2, "path 0 to 1 in 0;");
            due.yes("text " + k + " stays", Villages.answers(x).equals(Villages.answers(y)));
        }
    }

    private void fault() {
        doc.says("`int fault(int what)`: Of the latest text() what 0 the FAULT (0 without one), 1 its place (NONE). "
            + "NONE for another what.");
        LampRound x = Villages.row(1, 0);
        due.is("fault(0) without a text()", x.fault(0), 0);
        due.is("fault(1) without a text()", x.fault(1), NONE);
        due.fault(x, 0, "turn 1/0;", 2, 7);
        for (int what : new int[] {-1, 2, 3, MIN, MAX}) due.is("fault(" + what + ")", x.fault(what), NONE);
        Due.put(x, "turn 1;");
        x.nights(1);
        x.undo();
        due.is("still the latest text()'s", x.fault(0), 2);
        due.is("its place", x.fault(1), 7);
        due.is("text(0)", x.text(0), 1);
        due.is("none", x.fault(0), 0);
        due.is("no place", x.fault(1), NONE);
        due.fault(x, 4, "?", 1, 0);
        due.is("fault(2)", x.fault(2), NONE);
    }

    private void emptyTexts() {
        doc.says("TEXTS (empty at first).");
        LampRound x = Villages.row(2, 0);
        for (int what = 5; what < 10; what++) due.is("look(" + what + ") at first", x.look(what), 0);
        due.is("TURNS without a line: waited", x.of(1, 8), 1);
        due.is("BURNING without a line", x.of(1, 9), 1);
        String[] one = {"turn 9;", "burn 9;", "path 0 to 1 in 9;", "need read at 0 from 0 to 9 worth 9;", "go 1;"};
        int[] looks = {8, 9, 6, 5, 7};
        for (int k = 0; k < 5; k++) {
            due.told(x, k, one[k], 1);
            due.is("one", x.look(looks[k]), 1);
            due.told(x, k, k % 2 == 0 ? "" : " \n ", 0);
            due.is("empty again", x.look(looks[k]), 0);
        }
        due.is("TURNS without a line: waited", x.of(1, 8), 1);
        due.is("BURNING without a line", x.of(1, 9), 1);
        due.is("no PATH", x.far(0, 1), NONE);
        due.is("no NEED", x.need(0, 0), -2);
    }

    private void pathNumbers() {
        doc.says("2 (at the NUMBER) a part by 0; one beyond its bounds; a HOUSE that there is not.");
        doc.says("(N 1 .. 99; open while SNOW is until at most; 9 if it is not told; both ways; several between two: each one.)");
        LampRound x = Villages.row(2, 0);
        due.fault(x, 2, "path 0 to 1 in 0;", 2, 15);
        due.told(x, 2, "path 0 to 1 in 1;", 1);
        due.is("in 1", x.far(0, 1), 1);
        due.told(x, 2, "path 0 to 1 in 99;", 1);
        due.is("in 99", x.far(0, 1), 99);
        due.fault(x, 2, "path 0 to 1 in 100;", 2, 15);
        due.fault(x, 2, "path 0 to 1 in 9999;", 2, 15);
        due.told(x, 2, "path 0 to 1 in 1 until 0;", 1);
        due.told(x, 2, "path 0 to 1 in 1 until 9;", 1);
        due.fault(x, 2, "path 0 to 1 in 1 until 10;", 2, 23);
        due.fault(x, 2, "path 0 to 1 in 1 until 9999;", 2, 23);
        // HOUSES 0 and 1 are there, 2 is not; with ten of them 9 is, 10 is not; without any 0 is not.
        due.fault(x, 2, "path 2 to 1 in 1;", 2, 5);
        due.fault(x, 2, "path 1 to 2 in 1;", 2, 10);
        due.told(x, 2, "path 1 to 0 in 1;", 1);
        due.told(x, 2, "path 1 to 1 in 1;", 1);
        LampRound y = Villages.row(10, 0);
        due.told(y, 2, "path 9 to 0 in 1;path 0 to 9 in 1;", 2);
        due.fault(y, 2, "path 10 to 0 in 1;", 2, 5);
        due.fault(y, 2, "path 0 to 10 in 1;", 2, 10);
        due.fault(new LampRound(), 2, "path 0 to 0 in 1;", 2, 5);
    }

    private void pathSnow() {
        for (int until = 0; until <= 9; until++) {
            LampRound x = Villages.row(2, 0);
            Due.tell(x, 2, "path 0 to 1 in 5 until " + until + ";");
            x.set(0, 0, until);
            due.is("open until " + until, x.far(0, 1), 5);
            due.is("both ways", x.far(1, 0), 5);
            if (until < 9) x.set(0, 0, until + 1);
            due.is("one SNOW more than " + until, x.far(0, 1), until < 9 ? NONE : 5);
            due.is("both ways", x.far(1, 0), until < 9 ? NONE : 5);
        }
        LampRound x = Villages.row(2, 0);
        Due.tell(x, 2, "path 0 to 1 in 5;");
        x.set(0, 0, 9);
        due.is("9 if it is not told", x.far(0, 1), 5);
        // Each one of several: the short one while it is open, told first or last, from either side.
        for (String text : new String[] {"path 0 to 1 in 5 until 3;path 0 to 1 in 8;", "path 0 to 1 in 8;path 1 to 0 in 5 until 3;"}) {
            LampRound y = Villages.row(2, 0);
            due.told(y, 2, text, 2);
            y.set(0, 0, 3);
            due.is("the shorter one", y.far(0, 1), 5);
            y.set(0, 0, 4);
            due.is("the other one", y.far(0, 1), 8);
        }
    }

    private void needNumbers() {
        doc.says("(NIGHTS 0 .. 9999, the second one not below; worth 1 .. 99.)");
        LampRound x = Villages.row(2, 0);
        due.told(x, 3, "need read at 0 from 0 to 9999 worth 1;need read at 1 from 9999 to 9999 worth 99;", 2);
        int[][] want = {{1, 0, 0, 9999, 1}, {1, 1, 9999, 9999, 99}};
        for (int i = 0; i < 2; i++)
            for (int what = 0; what < 5; what++) due.is("need(" + i + ", " + what + ")", x.need(i, what), want[i][what]);
        due.fault(x, 3, "need read at 0 from 10000 to 9999 worth 1;", 1, 20);
        due.fault(x, 3, "need read at 0 from 0 to 10000 worth 1;", 1, 25);
        due.told(x, 3, "need read at 0 from 7 to 7 worth 1;", 1);
        due.fault(x, 3, "need read at 0 from 7 to 6 worth 1;", 2, 25);
        due.fault(x, 3, "need read at 0 from 9999 to 9998 worth 1;", 2, 28);
        due.fault(x, 3, "need read at 0 from 1 to 0 worth 1;", 2, 25);
        due.fault(x, 3, "need read at 0 from 0 to 0 worth 0;", 2, 33);
        due.fault(x, 3, "need read at 0 from 0 to 0 worth 100;", 2, 33);
        due.fault(x, 3, "need read at 0 from 0 to 0 worth 9999;", 2, 33);
        due.fault(x, 3, "need read at 2 from 0 to 0 worth 1;", 2, 13);
        LampRound y = Villages.row(10, 0);
        due.told(y, 3, "need read at 9 from 0 to 0 worth 1;", 1);
        due.fault(y, 3, "need read at 10 from 0 to 0 worth 1;", 2, 13);
        due.fault(new LampRound(), 3, "need read at 0 from 0 to 0 worth 1;", 2, 13);
    }

    private void toldAnew() {
        doc.says("Told anew none is done nor SPOILT.");
        String text = "need read at 0 from 0 to 0 worth 1;need read at 1 from 0 to 0 worth 1;need mend at 1 from 0 to 5 worth 1;";
        LampRound x = Villages.row(2, 9);
        due.told(x, 3, text, 3);
        x.nights(1);
        due.is("done", x.need(0, 5), 0);
        due.is("SPOILT", x.need(1, 6), 1);
        due.fault(x, 3, text + "need", 1, text.length() + 4);
        due.is("done still", x.need(0, 5), 0);
        due.is("SPOILT still", x.need(1, 6), 1);
        due.told(x, 3, text, 3);
        due.is("not done", x.need(0, 5), NONE);
        due.is("not SPOILT", x.need(1, 6), 0);
        due.is("not OPEN, as its NIGHT is gone", x.need(0, 7), 0);
        due.is("OPEN", x.need(2, 7), 1);
    }

    private void roundNumbers() {
        doc.says("(N of stay 1 .. 60, of again 1 .. 9).");
        LampRound x = Villages.row(2, 0);
        due.fault(x, 4, "stay 0;", 2, 5);
        due.told(x, 4, "stay 1;", 1);
        due.told(x, 4, "stay 60;", 60);
        due.fault(x, 4, "stay 61;", 2, 5);
        due.fault(x, 4, "stay 9999;", 2, 5);
        due.fault(x, 4, "again 0(go 0;)", 2, 6);
        due.told(x, 4, "again 1(go 0;)", 1);
        due.told(x, 4, "again 9(go 0;)", 9);
        due.fault(x, 4, "again 10(go 0;)", 2, 6);
        due.fault(x, 4, "again 9999(go 0;)", 2, 6);
        due.told(x, 4, "go 0;go 1;", 2);
        due.fault(x, 4, "go 2;", 2, 3);
        LampRound y = Villages.row(10, 0);
        due.told(y, 4, "go 9;", 1);
        due.fault(y, 4, "go 10;", 2, 3);
        due.fault(new LampRound(), 4, "go 0;", 2, 3);
        due.told(new LampRound(), 4, "stay 1;", 1);
    }

    private void partByZero() {
        LampRound x = Villages.row(2, 0);
        due.fault(x, 0, "turn 7/0;", 2, 7);
        due.fault(x, 0, "turn 7/ 0000;", 2, 8);
        due.fault(x, 0, "turn 0/0;", 2, 7);
        due.told(x, 0, "turn 7/1;", 1);
        due.told(x, 0, "turn 0/9999;", 1);
        due.fault(x, 1, "burn 7/7/0;", 2, 9);
        due.fault(x, 1, "burn 7*7/0;", 2, 9);
        due.fault(x, 0, "turn 7 when 7/0=1;", 2, 14);
        due.fault(x, 0, "turn 7 when 7=7/0;", 2, 16);
        due.fault(x, 0, "turn 7 when 7=7 or not(7=7/00);", 2, 27);
        due.told(x, 0, "turn 7*0;turn 7-0;turn 7+0;", 3);
    }

    private void firstFault() {
        doc.says("FAULTS, the first by its place, at one place the least:");
        LampRound x = Villages.row(2, 0);
        due.fault(x, 2, "path 2 to 2 in 0 until 10;", 2, 5);
        due.fault(x, 2, "path 0 to 2 in 0 ?", 2, 10);
        due.fault(x, 2, "path 0 to ? in 0;", 1, 10);
        due.fault(x, 3, "need read at 2 from 7 to 6 worth 0;", 2, 13);
        due.fault(x, 3, "need read at 1 from 7 to 6 worth 0;", 2, 25);
        due.fault(x, 0, "turn 7/0;turn ?", 2, 7);
        due.fault(x, 0, "turn ?;turn 7/0;", 1, 5);
        due.fault(x, 0, "turn 1;".repeat(16) + "turn 7/0;", 3, 112);
        due.fault(x, 0, "turn 1;".repeat(15) + "turn 7/0;turn 1;", 2, 112);
        due.fault(x, 4, "stay 60;".repeat(4) + "go 2;", 2, 35);
        // At the end both an open again and too many NIGHTS: the lesser one.
        due.fault(x, 4, "again 9(stay 60;", 1, 16);
        due.fault(x, 4, "again 9(stay 60;)", 4, 17);
        due.fault(x, 4, "stay 60;".repeat(4) + "stay", 1, 36);
    }

    private void mostLines() {
        doc.says("3 (at its KEYWORD) the 17th line of a LAW, the 41st PATH, the 11th NEED;");
        for (int k = 0; k < 2; k++) {
            String line = k == 0 ? "turn 1;" : "burn 1;", word = line.substring(0, 4);
            LampRound x = Villages.row(2, 0);
            due.told(x, k, line.repeat(15), 15);
            due.told(x, k, line.repeat(16), 16);
            due.fault(x, k, line.repeat(17), 3, 112);
            due.is("16 stay", x.look(8 + k), 16);
            due.fault(x, k, line.repeat(16) + " \n" + word, 3, 114);
            due.fault(x, k, line.repeat(16) + word + "?", 3, 112);
            due.fault(x, k, line.repeat(16) + "when", 1, 112);
            due.fault(x, k, line.repeat(16) + word + "s", 1, 112);
            due.fault(x, k, line.repeat(15) + word + " 1", 1, 111);
            due.told(x, k, line.repeat(16) + " \n ", 16);
        }
        // 400 bytes hold no more than 33 of the shortest PATHS: the 41st can't come.
        LampRound y = Villages.row(2, 0);
        due.told(y, 2, "path0to1in1;".repeat(33), 33);
        due.is("look(6)", y.look(6), 33);
        String need = "need read at1from2to3worth4;";
        due.told(y, 3, need.repeat(9), 9);
        due.told(y, 3, need.repeat(10), 10);
        due.is("the 10th", y.need(9, 4), 4);
        due.is("need(10, 0)", y.need(10, 0), -2);
        due.fault(y, 3, need.repeat(11), 3, 280);
        due.fault(y, 3, need.repeat(10) + "\nneed", 3, 281);
        due.fault(y, 3, need.repeat(10) + "need ?", 3, 280);
        due.fault(y, 3, need.repeat(10) + "read", 1, 280);
        due.is("10 stay", y.look(5), 10);
    }

    private void mostOpen() {
        doc.says("(at it) the 9th ( or not that is open;");
        // Each way to open eight of them, then one more of either kind.
        for (int kinds = 0; kinds < 256; kinds += 15) {
            StringBuilder open = new StringBuilder("turn 7 when "), close = new StringBuilder();
            for (int i = 0; i < 8; i++) {
                boolean bracket = (kinds >> i & 1) == 1;
                open.append(bracket ? "(" : "not ");
                if (bracket) close.append(")");
            }
            LampRound x = Villages.row(2, 0);
            due.told(x, 0, open + "1=1" + close + ";", 1);
            due.fault(x, 0, open + "(1=1)" + close + ";", 3, open.length());
            due.fault(x, 0, open + "not 1=1" + close + ";", 3, open.length());
            due.fault(x, 0, open + " (", 3, open.length() + 1);
            due.fault(x, 0, open + "?", 1, open.length());
        }
        // What is closed is not open: a not with its C, a ( with its ).
        LampRound x = Villages.row(2, 0);
        String eight = "(".repeat(8) + "1=1" + ")".repeat(8);
        due.told(x, 0, "turn 7 when " + eight + " and " + eight + " or " + "not ".repeat(8) + "1=1;turn 8 when " + eight + ";", 2);
        due.told(x, 0, "turn 7 when not (not (not (not 1=1) and not (not 1=1)) or not not not not not not 1=1);", 1);
        due.told(x, 0, "turn 7 when (((((((not 1=1 and (1=1) and not 1=1)))))));", 1);
        due.fault(x, 0, "turn 7 when (((((((not 1=1 and not not 1=1)))))));", 3, 35);
        due.fault(x, 0, "turn 7 when (((((((not 1=1 and (not 1=1))))))));", 3, 32);
        due.told(x, 1, "burn 7 when " + eight + ";", 1);
        due.fault(x, 1, "burn 7 when (" + eight + ");", 3, 20);
    }

    private void mostAgain() {
        doc.says("(at again) the 5th that is open.");
        LampRound x = Villages.row(2, 0);
        String four = "again 1(".repeat(4);
        due.told(x, 4, "again 1(".repeat(3) + "go 0;" + ")))", 1);
        due.told(x, 4, four + "go 0;" + "))))", 1);
        due.fault(x, 4, four + "again 1(go 0;)))))", 3, 32);
        due.fault(x, 4, four + "go 0;\nagain", 3, 38);
        due.fault(x, 4, four + "again 0", 3, 32);
        due.fault(x, 4, four + "agains", 1, 32);
        due.told(x, 4, four + ")again 1()" + ")))", 0);
        due.told(x, 4, four + "))))" + four + "go 1;))))", 1);
        due.fault(x, 4, four + ")again 1(again 1(", 3, 41);
        due.told(x, 4, "again 3(again 3(again 3(again 3(go 1;))))", 81);
    }

    private void mostNights() {
        doc.says("4 (at the end) more than 200 NIGHTS of A ROUND (go: one, stay: N).");
        LampRound x = Villages.row(2, 0);
        due.told(x, 4, "stay 60;stay 60;stay 60;stay 19;", 199);
        due.told(x, 4, "stay 60;stay 60;stay 60;stay 20;", 200);
        due.is("look(7)", x.look(7), 200);
        due.fault(x, 4, "stay 60;stay 60;stay 60;stay 21;", 4, 32);
        due.is("200 stay", x.look(7), 200);
        due.told(x, 4, "stay 60;stay 60;stay 60;stay 19;go 0;", 200);
        due.fault(x, 4, "stay 60;stay 60;stay 60;stay 20;go 0;", 4, 37);
        due.fault(x, 4, "go 0;stay 60;stay 60;stay 60;stay 20;\n \n", 4, 40);
        due.told(x, 4, "again 5(stay 40;)", 200);
        due.fault(x, 4, "again 5(stay 40;)go 1;", 4, 22);
        due.told(x, 4, "again 5(again 8(again 5(go 1;)))", 200);
        due.fault(x, 4, "again 3(again 67(go 1;))", 2, 14);
        due.fault(x, 4, "again 3(again 9(again 7(go 1;))again 6(go 1;)stay 60;)", 4, 54);
        due.fault(x, 4, "again 9(again 9(again 9(again 9(" + "stay 60;".repeat(40) + "))))", 4, 356);
        due.told(x, 4, "again 9(again 9(again 9(again 9())))", 0);
    }
}
