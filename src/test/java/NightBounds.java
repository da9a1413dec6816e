/** Boundaries of A NIGHT, part by part, and of THE BOOK. */
final class NightBounds {
    private static final int NONE = BoundsTest.NONE, MIN = BoundsTest.MIN, MAX = BoundsTest.MAX;

    private final BoundsTest test;
    private final Due due;
    private final Doc doc;

    NightBounds(BoundsTest test) {
        this.test = test;
        due = test.due;
        doc = test.doc;
    }

    void check() {
        nightsAreRefused();
        lastNight();
        mostHad();
        roundLeft();
        goAndStay();
        turns();
        burns();
        lit();
        brides();
        brideOfNightZero();
        owed();
        owedMost();
        spoilt();
        flakes();
        nextNight();
        book();
        bookIsFull();
    }

    private void nightsAreRefused() {
        doc.says("`int nights(int n)`: NIGHTS go by (1 .. 60): how many were LIT. NONE, and nothing is done, if one can't be, "
            + "there is no HOUSE, or NIGHT would be above 9999.");
        test.refused("nights(_)", LampRound::nights, NONE, 0, 61, -1, MIN, MAX);
        LampRound x = Villages.row(1, 999);
        due.is("nights(1)", x.nights(1), 1);
        due.is("nights(60)", x.nights(60), 60);
        due.is("nights(61)", x.nights(61), NONE);
        due.is("NIGHT", x.look(2), 61);
        LampRound y = Villages.row(1, 59);
        due.is("the 60th is DARK", y.nights(60), 59);
        due.is("none is LIT", y.nights(60), 0);
        LampRound z = new LampRound();
        due.is("no HOUSE", z.nights(1), NONE);
        due.is("NIGHT", z.look(2), 0);
        due.is("no line", z.look(3), 0);
        z.house(0, 1, 1);
        due.is("a HOUSE", z.nights(1), 1);
    }

    /** A village of one HOUSE in that NIGHT. */
    private static LampRound inNight(int night) {
        LampRound x = Villages.row(1, 5);
        for (int i = 0; i < night / 60; i++) x.nights(60);
        if (night % 60 > 0) x.nights(night % 60);
        return x;
    }

    private void lastNight() {
        doc.says("NIGHT 0 .. 9999 (0 at first; the one that comes next),");
        due.is("at first", new LampRound().look(2), 0);
        LampRound x = inNight(9939);
        due.is("NIGHT", x.look(2), 9939);
        due.is("60 to 9999", x.nights(60), 0);
        due.is("NIGHT", x.look(2), 9999);
        due.is("one more", x.nights(1), NONE);
        due.is("60 more", x.nights(60), NONE);
        due.is("NIGHT", x.look(2), 9999);
        due.is("6 can be undone still", x.look(11), 6);
        due.yes("undo", x.undo());
        due.is("NIGHT", x.look(2), 9998);
        due.is("two more", x.nights(2), NONE);
        due.is("one more", x.nights(1), 0);
        due.is("NIGHT", x.look(2), 9999);
        LampRound y = inNight(9940);
        due.is("60 to 10000", y.nights(60), NONE);
        due.is("NIGHT", y.look(2), 9940);
        due.is("59 to 9999", y.nights(59), 0);
    }

    private void mostHad() {
        doc.says("HAD 0 .. 9999 (lit nights),");
        LampRound x = Villages.row(1, 0);
        due.is("HAD at first", x.of(0, 4), 0);
        x.nights(1);
        due.is("HAD after a dark one", x.of(0, 4), 0);
        LampRound y = Villages.row(1, 0);
        due.told(y, 1, "burn 0;", 1);
        for (int i = 0; i < 166; i++) y.nights(60);
        y.nights(39);
        due.is("HAD of all NIGHTS", y.of(0, 4), 9999);
        due.is("LAST", y.of(0, 5), 9998);
        y.set(10, 0, 9998);
        due.is("says one less", y.liars(), 1);
        y.set(10, 0, 9999);
        due.is("says the most", y.liars(), 0);
    }

    private void roundLeft() {
        doc.says("A NIGHT. (a) THE LAMP: if A ROUND has a NIGHT left, that:");
        LampRound x = Villages.street(2, 99);
        due.told(x, 0, "turn house;", 1);
        due.told(x, 4, "stay 2;", 2);
        int[][] want = {{0, 1}, {0, 0}, {1, 0}, {1, 0}};
        for (int[] w : want) {
            x.nights(1);
            due.is("THE LAMP", x.look(1), w[0]);
            due.is("NIGHTS left", x.look(7), w[1]);
        }
        LampRound z = Villages.street(3, 99);
        due.told(z, 4, "again 2(go 2;again 2(go 1;)go 0;)", 8);
        int[] stops = {2, 1, 1, 0, 2, 1, 1, 0};
        for (int i = 0; i < 8; i++) {
            z.nights(1);
            due.is("again, NIGHT " + i, z.look(1), stops[i]);
        }
        // 200 NIGHTS, and the one behind them.
        LampRound y = Villages.street(2, 0);
        due.told(y, 0, "turn house;", 1);
        due.told(y, 4, "again 5(stay 40;)", 200);
        for (int i = 0; i < 3; i++) y.nights(60);
        y.nights(19);
        due.is("NIGHTS left", y.look(7), 1);
        due.is("THE LAMP", y.look(1), 0);
        y.nights(1);
        due.is("NIGHTS left", y.look(7), 0);
        due.is("THE LAMP in the 200th", y.look(1), 0);
        y.nights(1);
        due.is("THE LAMP in the 201st", y.look(1), 1);
        // A part that is gone by is not there again when A ROUND is told anew, or empty.
        due.told(y, 4, "go 0;", 1);
        y.nights(1);
        due.is("THE LAMP", y.look(1), 0);
        due.told(y, 4, "stay 3;", 3);
        due.is("NIGHTS left", y.look(7), 3);
        due.told(y, 4, "", 0);
        y.nights(1);
        due.is("THE LAMP without A ROUND", y.look(1), 1);
    }

    private void goAndStay() {
        doc.says("go: to that HOUSE, if it is REACHED, else it stays; stay: it stays.");
        LampRound x = Villages.row(3, 99);
        due.told(x, 2, "path 0 to 1 in 20;path 1 to 2 in 21;", 2);
        due.told(x, 0, "turn 0-house;", 1);
        due.told(x, 4, "go 2;go 1;go 2;go 1;stay 1;go 0;", 6);
        int[] want = {0, 1, 1, 1, 1, 0};
        for (int i = 0; i < want.length; i++) {
            x.nights(1);
            due.is("NIGHT " + i, x.look(1), want[i]);
            due.is("LIT there", x.of(want[i], 5), i);
        }
        x.set(3, 0, 21);
        x.set(5, 0, 1);
        due.told(x, 4, "go 2;", 1);
        x.nights(1);
        due.is("DUSK 21", x.look(1), 2);
    }

    private void turns() {
        doc.says("Else to that HOUSE of those REACHED for which TURNS tells most; of several the least.");
        LampRound x = Villages.street(3, 99);
        due.told(x, 0, "turn 8192*8192*32;", 1);
        x.set(5, 0, 2);
        x.nights(1);
        due.is("all tell the least int: the least HOUSE", x.look(1), 0);
        due.told(x, 0, "turn 8192*8192*32+house;", 1);
        x.nights(1);
        due.is("all far below 0: the most", x.look(1), 2);
        due.told(x, 0, "turn 8192*8192*32-1 when house=1;turn 8192*8192*32-2;", 2);
        x.nights(1);
        due.is("the greatest int", x.look(1), 1);
        due.told(x, 0, "turn 8 when house>0;turn 7;", 2);
        x.nights(1);
        due.is("of two the least", x.look(1), 1);
        // 2 tells most, but is one beyond DUSK.
        LampRound y = Villages.row(3, 99);
        due.told(y, 0, "turn house;", 1);
        due.told(y, 2, "path 0 to 1 in 20;path 0 to 2 in 21;", 2);
        y.nights(1);
        due.is("of those REACHED", y.look(1), 1);
        LampRound z = Villages.row(3, 99);
        due.told(z, 0, "turn house;", 1);
        z.nights(1);
        due.is("itself alone is REACHED", z.look(1), 0);
    }

    private void burns() {
        doc.says("(b) The HOUSE burns what BURNING tells: with so much OIL it is that less, and LIT; else OIL is 0, and it is DARK.");
        int[][] cases = {{7, 8, 1, 1}, {7, 7, 1, 0}, {7, 6, 0, 0}, {7, 0, 0, 0}, {0, 0, 1, 0}, {0, 5, 1, 5}, {1, 0, 0, 0},
            {99, 99, 1, 0}, {99, 98, 0, 0}, {99, 999, 1, 900}};
        for (int[] c : cases) {
            LampRound x = Villages.row(1, c[1]);
            due.told(x, 1, "burn " + c[0] + ";", 1);
            String call = "burn " + c[0] + " of " + c[1];
            due.is(call, x.nights(1), c[2]);
            due.is(call + ": OIL", x.of(0, 2), c[3]);
            due.is(call + ": HAD", x.of(0, 4), c[2]);
            due.is(call + ": LAST", x.of(0, 5), c[2] - 1);
            due.is(call + ": THE BOOK's LIT", x.book(0, 2), c[2]);
            due.is(call + ": THE BOOK's OIL", x.book(0, 3), c[1] - c[3]);
        }
        // By OIL as it is ahead of the burning, and the HOUSE's own alone.
        LampRound y = Villages.row(2, 10);
        due.told(y, 1, "burn oil;", 1);
        due.is("all its OIL", y.nights(2), 2);
        due.is("OIL", y.of(0, 2), 0);
        due.is("of the other one", y.of(1, 2), 10);
    }

    private void lit() {
        doc.says("(c) LIT: HAD is one more, LAST this NIGHT, OWED one less (0 at least);");
        int[][] cases = {{0, 0}, {1, 0}, {2, 1}, {99, 98}};
        for (int[] c : cases) {
            LampRound x = Villages.row(2, 1);
            x.set(8, 0, c[0]);
            x.set(8, 1, c[0]);
            x.nights(1);
            due.is("OWED " + c[0] + " and LIT", x.of(0, 3), c[1]);
            due.is("OWED of the other one", x.of(1, 3), c[0]);
            due.is("HAD", x.of(0, 4), 1);
            due.is("LAST", x.of(0, 5), 0);
            x.set(8, 0, c[0]);
            x.nights(1);
            due.is("OWED " + c[0] + " and DARK", x.of(0, 3), c[0]);
            due.is("HAD", x.of(0, 4), 1);
            due.is("LAST", x.of(0, 5), 0);
        }
    }

    private void brides() {
        doc.says("each of its OPEN NEEDS is done, a bride if THE LAMP was LIT there in the NIGHT ahead, too.");
        // By where THE LAMP was in NIGHTS 1, 2 and 3.
        String[] rounds = {"go 1;go 1;go 0;go 0;", "go 1;go 0;go 0;go 0;", "go 1;go 0;go 1;go 0;", "go 1;go 0;go 0;go 1;"};
        int[] want = {NONE, 2, NONE, 2};
        for (int i = 0; i < rounds.length; i++) {
            LampRound x = Villages.street(2, 99);
            due.told(x, 3, "need bride at 0 from 0 to 9 worth 1;", 1);
            due.told(x, 4, rounds[i], 4);
            x.nights(3);
            due.is("bride in three NIGHTS of " + rounds[i], x.need(0, 5), want[i]);
            x.nights(1);
            due.is("bride in four NIGHTS of " + rounds[i], x.need(0, 5), i == 0 ? 3 : want[i]);
        }
        // The NEED itself need not be OPEN in the NIGHT ahead; in its last NIGHT it may be done.
        LampRound y = Villages.row(1, 99);
        due.told(y, 3, "need bride at 0 from 1 to 1 worth 1;need bride at 0 from 0 to 0 worth 1;", 2);
        y.nights(2);
        due.is("OPEN in one NIGHT alone", y.need(0, 5), 1);
        due.is("OPEN in NIGHT 0 alone", y.need(1, 6), 1);
        // All of one HOUSE at once, none of another one.
        LampRound z = Villages.street(2, 99);
        due.told(z, 3, "need birth at 0 from 0 to 0 worth 1;need read at 1 from 0 to 0 worth 1;need mend at 0 from 0 to 9 worth 1;", 3);
        z.nights(1);
        due.is("THE BOOK's NEEDS", z.book(0, 5), 5);
        due.is("done", z.need(0, 5) + z.need(2, 5), 0);
        due.is("not done", z.need(1, 5), NONE);
    }

    private void brideOfNightZero() {
        LampRound x = Villages.row(1, 99);
        due.told(x, 3, "need bride at 0 from 0 to 9 worth 1;", 1);
        x.nights(1);
        due.is("in NIGHT 0 none is ahead", x.need(0, 5), NONE);
        due.is("OPEN still", x.need(0, 7), 1);
        x.nights(1);
        due.is("in NIGHT 1", x.need(0, 5), 1);
        // DARK in the NIGHT ahead, or in the NIGHT itself.
        LampRound y = Villages.row(1, 1);
        due.told(y, 3, "need bride at 0 from 0 to 9 worth 1;", 1);
        y.nights(2);
        due.is("LIT, then DARK", y.need(0, 5), NONE);
        y.set(7, 0, 9);
        y.nights(1);
        due.is("DARK, then LIT", y.need(0, 5), NONE);
        y.nights(1);
        due.is("LIT, then LIT", y.need(0, 5), 3);
    }

    private void owed() {
        doc.says("(d) HOUSE by HOUSE: if this NIGHT less LAST (LAST -1, if none) is above 0 and a multiple of DUE, OWED is one more");
        // DUE 1: each NIGHT, but for the HOUSE that is LIT in it.
        LampRound x = Villages.row(2, 2);
        x.set(4, 0, 1);
        x.nights(2);
        due.is("LIT twice", x.of(0, 3), 0);
        due.is("without", x.of(1, 3), 2);
        x.nights(1);
        due.is("DARK", x.of(0, 3), 1);
        // DUE 99 from none: NIGHT 98 is the 99th.
        LampRound y = Villages.row(2, 999);
        y.set(4, 0, 99);
        y.nights(60);
        y.nights(38);
        due.is("98 NIGHTS", y.of(1, 3), 0);
        y.nights(1);
        due.is("99 NIGHTS", y.of(1, 3), 1);
        y.nights(60);
        y.nights(38);
        due.is("197 NIGHTS", y.of(1, 3), 1);
        y.nights(1);
        due.is("198 NIGHTS", y.of(1, 3), 2);
        // DUE 30 as it is at first; from LAST 0: NIGHT 30.
        LampRound z = Villages.row(1, 1);
        z.nights(30);
        due.is("NIGHT 29 less 0", z.of(0, 3), 0);
        z.nights(1);
        due.is("NIGHT 30 less 0", z.of(0, 3), 1);
        z.nights(29);
        due.is("NIGHT 59 less 0", z.of(0, 3), 1);
        z.nights(1);
        due.is("NIGHT 60 less 0", z.of(0, 3), 2);
        // LIT after having waited a multiple of DUE: less one, and none more.
        LampRound w = Villages.row(1, 0);
        w.set(4, 0, 2);
        w.nights(3);
        due.is("NIGHT 1 and -1", w.of(0, 3), 1);
        w.set(7, 0, 9);
        w.nights(1);
        due.is("LIT in NIGHT 3", w.of(0, 3), 0);
    }

    private void owedMost() {
        doc.says("(99 at most).");
        for (int owed = 97; owed <= 99; owed++) {
            LampRound x = Villages.row(2, 9);
            x.set(4, 0, 1);
            x.set(8, 1, owed);
            x.nights(1);
            due.is("OWED " + owed + " and one", x.of(1, 3), Math.min(99, owed + 1));
            x.nights(1);
            due.is("OWED " + owed + " and two", x.of(1, 3), 99);
        }
        // Less for the light ahead of more for the waiting.
        LampRound y = Villages.row(1, 9);
        y.set(4, 0, 1);
        y.set(8, 0, 99);
        y.nights(1);
        due.is("LIT", y.of(0, 3), 98);
    }

    private void spoilt() {
        doc.says("(e) NEEDS whose last NIGHT is this one and that are not done are SPOILT.");
        LampRound x = Villages.row(2, 9);
        due.told(x, 3, "need read at 1 from 0 to 1 worth 1;need read at 0 from 1 to 1 worth 1;need bride at 0 from 0 to 0 worth 1;"
            + "need read at 1 from 2 to 2 worth 1;", 4);
        int[][] want = {{0, 0, 1, 0}, {1, 0, 1, 0}, {1, 0, 1, 1}};
        for (int night = 0; night < 3; night++) {
            x.nights(1);
            for (int i = 0; i < 4; i++) due.is("NEED " + i + " SPOILT in NIGHT " + night, x.need(i, 6), want[night][i]);
        }
        due.is("done in its last", x.need(1, 5), 1);
        // Those whose last NIGHT is gone when they are told are not.
        due.told(x, 3, "need read at 1 from 0 to 2 worth 1;need read at 1 from 0 to 3 worth 1;", 2);
        x.nights(2);
        due.is("to 2, told in 3", x.need(0, 6), 0);
        due.is("to 3, told in 3", x.need(1, 6), 1);
    }

    private void flakes() {
        doc.says("(f) If FLAKES are above 0, a DRAW of 1000: below FLAKES SNOW is one more (9 at most), else one less (0 at least).");
        LampRound x = Villages.row(1, 0);
        x.state(77);
        x.set(0, 0, 5);
        x.nights(1);
        due.is("FLAKES 0: no DRAW", x.look(4), 77);
        due.is("FLAKES 0: SNOW stays", x.look(20), 5);
        x.set(1, 0, 1);
        x.nights(1);
        due.is("FLAKES 1: a DRAW", x.look(4), 77 * 1664525 + 1013904223);
        // FLAKES 1000: always one more; 9 at most.
        int[][] more = {{0, 1}, {7, 8}, {8, 9}, {9, 9}};
        for (int[] m : more) {
            LampRound y = Villages.row(1, 0);
            y.set(0, 0, m[0]);
            y.set(1, 0, 1000);
            y.nights(1);
            due.is("SNOW " + m[0] + ", one more", y.look(20), m[1]);
            due.is("THE BOOK's SNOW", y.book(0, 4), m[0]);
        }
        // From STATE 1 a DRAW of 65: FLAKES 65 make one less; 0 at least.
        int[][] less = {{9, 8}, {2, 1}, {1, 0}, {0, 0}};
        for (int[] l : less) {
            LampRound y = Villages.row(1, 0);
            y.set(0, 0, l[0]);
            y.set(1, 0, 65);
            y.state(1);
            y.nights(1);
            due.is("SNOW " + l[0] + ", one less", y.look(20), l[1]);
            y.set(0, 0, l[0]);
            y.set(1, 0, 66);
            y.state(1);
            y.nights(1);
            due.is("SNOW " + l[0] + ", one more", y.look(20), Math.min(9, l[0] + 1));
        }
    }

    private void nextNight() {
        doc.says("(g) NIGHT is one more.");
        LampRound x = Villages.row(1, 1);
        for (int night = 0; night < 3; night++) {
            due.is("NIGHT", x.look(2), night);
            x.nights(1);
            due.is("THE BOOK's NIGHT", x.book(night, 0), night);
        }
    }

    private void book() {
        doc.says("NIGHT, HOUSE, 1 if it was LIT, else 0, OIL burnt, SNOW (as it was in (a)), NEEDS that were done (a set).");
        doc.says("`int book(int i, int what)`: Of line i of THE BOOK what 0 NIGHT, 1 HOUSE, 2 LIT, 3 OIL, 4 SNOW, 5 NEEDS. NONE if "
            + "there is none such, or another what.");
        LampRound x = Villages.row(1, 3);
        due.is("book(0, 0) at first", x.book(0, 0), NONE);
        due.told(x, 1, "burn 2;", 1);
        due.told(x, 3, "need read at0from0to0worth1;".repeat(10), 10);
        x.set(1, 0, 1000);
        x.set(0, 0, 8);
        x.nights(3);
        int[][] want = {{0, 0, 1, 2, 8, 1023}, {1, 0, 0, 1, 9, 0}, {2, 0, 0, 0, 9, 0}};
        for (int i = 0; i < 3; i++)
            for (int what = 0; what < 6; what++) due.is("book(" + i + ", " + what + ")", x.book(i, what), want[i][what]);
        LampRound y = Villages.street(2, 9);
        due.told(y, 3, "need read at 1 from 0 to 9 worth 1;need read at 1 from 1 to 1 worth 1;", 2);
        y.nights(3);
        int[][] then = {{0, 0, 1, 1, 0, 0}, {1, 1, 1, 1, 0, 3}, {2, 0, 1, 1, 0, 0}};
        for (int i = 0; i < 3; i++)
            for (int what = 0; what < 6; what++) due.is("book(" + i + ", " + what + ")", y.book(i, what), then[i][what]);
        for (int i : new int[] {-1, 3, 149, 150, MIN, MAX}) due.is("book(" + i + ", 0)", x.book(i, 0), NONE);
        for (int what : new int[] {-1, 6, MIN, MAX}) due.is("book(0, " + what + ")", x.book(0, what), NONE);
        due.is("book(-1, 6): not the one ahead", x.book(-1, 6), NONE);
        due.is("book(1, -6): not the one ahead", x.book(1, -6), NONE);
        due.is("book(0, 7): not the one behind", x.book(0, 7), NONE);
    }

    private void bookIsFull() {
        doc.says("THE BOOK (150 lines; no more then):");
        LampRound x = Villages.row(1, 999);
        x.nights(60);
        x.nights(60);
        x.nights(29);
        due.is("149 lines", x.look(3), 149);
        due.is("book(148, 0)", x.book(148, 0), 148);
        due.is("book(149, 0)", x.book(149, 0), NONE);
        x.nights(1);
        due.is("150 lines", x.look(3), 150);
        due.is("book(149, 0)", x.book(149, 0), 149);
        due.is("book(150, 0)", x.book(150, 0), NONE);
        due.is("the NIGHTS go on", x.nights(2), 2);
        due.is("150 lines", x.look(3), 150);
        due.is("book(0, 0)", x.book(0, 0), 0);
        due.is("book(149, 0)", x.book(149, 0), 149);
        due.is("book(150, 0)", x.book(150, 0), NONE);
        x.undo();
        x.undo();
        due.is("two NIGHTS undone that have no line", x.look(3), 150);
        x.undo();
        due.is("the 150th line goes back", x.look(3), 149);
        due.is("book(149, 0)", x.book(149, 0), NONE);
        due.is("NIGHT", x.look(2), 149);
        x.set(0, 0, 7);
        x.nights(1);
        due.is("written anew", x.book(149, 4), 7);
    }
}
