/** Boundaries of RUN, PLAN, ENVIES, MEND, ROOMS, SALE and LIARS. */
final class ThoughtBounds {
    private static final int NONE = BoundsTest.NONE, MIN = BoundsTest.MIN, MAX = BoundsTest.MAX;

    private final BoundsTest test;
    private final Due due;
    private final Doc doc;

    ThoughtBounds(BoundsTest test) {
        this.test = test;
        due = test.due;
        doc = test.doc;
    }

    void check() {
        nothingStays();
        run();
        runDark();
        runSpoilt();
        runIsRefused();
        planNights();
        planReaches();
        planChooses();
        planBrides();
        planIsRefused();
        envies();
        mendLeast();
        mendMost();
        mendIsRefused();
        rooms();
        roomsIsRefused();
        sale();
        liars();
    }

    private void nothingStays() {
        doc.says("IN THOUGHT (nothing of it stays; no DRAWS: SNOW stays as it is).");
        test.changesNothing("thoughts", x -> {
            for (int what = 0; what < 4; what++) x.run(99, what);
            x.plan(10, 0);
            x.plan(7, 16);
            x.mend(NONE);
            x.rooms(0);
            x.sale(1);
            x.liars();
            x.sure(0, 2, 9);
            x.best(2, 9);
            x.ways(10);
            x.been(10, 9);
            x.ask(10, 1);
        });
        // A SNOW that would close the PATH at once, and a DRAW that would be seen.
        LampRound x = Villages.row(2, 99);
        due.told(x, 2, "path 0 to 1 in 1 until 0;", 1);
        due.told(x, 0, "turn house;", 1);
        due.told(x, 4, "stay 5;", 5);
        x.set(1, 0, 1000);
        due.is("the PATH is open in thought", x.run(6, 0), 1);
        due.is("STATE", x.look(4), 0);
        due.is("SNOW", x.look(20), 0);
        x.nights(6);
        due.is("in truth it is closed", x.look(1), 0);
    }

    private void run() {
        doc.says("RUN of n (1 .. 99) NIGHTS: where THE LAMP is in the n-th one,");
        // 0 and 1 in turn, from 1 on: in the n-th NIGHT at n modulo 2.
        LampRound x = Villages.street(2, 99);
        x.nights(1);
        for (int n : new int[] {1, 2, 3, 98, 99}) due.is("in the " + n + "th", x.run(n, 0), n % 2);
        // A ROUND's last NIGHT, and the one behind it.
        LampRound y = Villages.street(3, 99);
        due.told(y, 0, "turn 0-house;", 1);
        due.told(y, 4, "go 2;stay 1;go 1;", 3);
        int[] want = {2, 2, 1, 0};
        for (int n = 1; n <= 4; n++) due.is("in the " + n + "th", y.run(n, 0), want[n - 1]);
        due.is("A ROUND is left", y.look(7), 3);
    }

    private void runDark() {
        doc.says("how many were DARK,");
        LampRound x = Villages.row(1, 5);
        int[][] want = {{1, 0}, {5, 0}, {6, 1}, {7, 2}, {99, 94}};
        for (int[] w : want) due.is("DARK of " + w[0], x.run(w[0], 1), w[1]);
        x.set(7, 0, 99);
        due.is("DARK of 99 with 99", x.run(99, 1), 0);
        x.set(7, 0, 98);
        due.is("DARK of 99 with 98", x.run(99, 1), 1);
        x.set(7, 0, 0);
        due.is("DARK of 99 with none", x.run(99, 1), 99);
        due.is("OIL", x.of(0, 2), 0);
    }

    private void runSpoilt() {
        doc.says("which NEEDS are SPOILT in them (a set), the first of these to be (of several the least).");
        LampRound x = Villages.row(2, 99);
        due.told(x, 3, "need read at 1 from 0 to 4 worth 1;need read at 1 from 0 to 2 worth 1;need read at 1 from 2 to 2 worth 1;"
            + "need read at 0 from 1 to 1 worth 1;need read at 1 from 0 to 0 worth 1;", 5);
        x.nights(1);
        due.is("SPOILT already", x.need(4, 6), 1);
        int[][] want = {{1, 0, NONE}, {2, 6, 1}, {3, 6, 1}, {4, 7, 1}, {99, 7, 1}};
        for (int[] w : want) {
            due.is("SPOILT in " + w[0], x.run(w[0], 2), w[1]);
            due.is("the first in " + w[0], x.run(w[0], 3), w[2]);
        }
        due.is("not SPOILT in truth", x.need(1, 6), 0);
        // All ten, the last one of them in the 99th NIGHT.
        LampRound y = Villages.row(2, 99);
        due.told(y, 3, "need read at1from0to98worth1;need read at1from0to99worth1;" + "need read at1from0to9worth1;".repeat(8), 10);
        due.is("in 9", y.run(9, 2), 0);
        due.is("in 10", y.run(10, 2), 1020);
        due.is("the first", y.run(10, 3), 2);
        due.is("in 98", y.run(98, 2), 1020);
        due.is("in 99", y.run(99, 2), 1021);
        due.is("the first", y.run(99, 3), 2);
        y.nights(1);
        due.is("in 99 from NIGHT 1 on", y.run(99, 2), 1023);
    }

    private void runIsRefused() {
        doc.says("`int run(int n, int what)`: RUN what 0 the HOUSE, 1 DARK ones, 2 SPOILT NEEDS, 3 the first (NONE). NONE if one "
            + "can't be, or another what.");
        LampRound x = Villages.row(1, 0);
        for (int what = 0; what < 4; what++) {
            for (int n : new int[] {0, 100, -1, MIN, MAX}) due.is("run(" + n + ", " + what + ")", x.run(n, what), NONE);
            due.is("run(1, " + what + ")", x.run(1, what), new int[] {0, 1, 0, NONE}[what]);
            due.is("run(99, " + what + ")", x.run(99, what), new int[] {0, 99, 0, NONE}[what]);
            due.is("no HOUSE", new LampRound().run(1, what), NONE);
        }
        // With something SPOILT, so that NONE is no answer of RUN's own.
        due.told(x, 3, "need read at 0 from 0 to 0 worth 1;", 1);
        due.is("the first", x.run(1, 3), 0);
        for (int what : new int[] {-1, 4, MIN, MAX}) due.is("run(1, " + what + ")", x.run(1, what), NONE);
    }

    private void planNights() {
        doc.says("PLAN of n (1 .. 10) NIGHTS from this one on (OIL not asked: each is LIT;");
        LampRound x = Villages.row(1, 0);
        // From NIGHT 5 on: one is gone, one ends now, one begins in the 10th NIGHT, one behind it.
        x.nights(5);
        due.told(x, 3, "need read at 0 from 0 to 4 worth 1;need read at 0 from 0 to 5 worth 2;need read at 0 from 14 to 99 worth 4;"
            + "need read at 0 from 15 to 99 worth 8;need read at 0 from 6 to 6 worth 16;", 5);
        int[] want = {2, 18, 18, 18, 18, 18, 18, 18, 18, 22};
        for (int n = 1; n <= 10; n++) due.is("worth of " + n, x.plan(n, 0), want[n - 1]);
        due.is("no way", x.plan(10, 1), 0);
        for (int k = 0; k < 10; k++) due.is("NIGHT " + k, x.plan(10, 10 + k), 0);
        due.is("OIL not asked", x.of(0, 2), 0);
        // What is done or SPOILT is not done once more.
        LampRound y = Villages.row(2, 9);
        due.told(y, 3, "need read at 0 from 0 to 9 worth 1;need read at 1 from 0 to 0 worth 2;need mend at 1 from 0 to 9 worth 4;", 3);
        y.nights(1);
        due.is("done", y.plan(10, 0), 0);
        y.set(5, 0, 1);
        due.is("what is left", y.plan(10, 0), 4);
    }

    private void planReaches() {
        doc.says("any HOUSE that is REACHED from the one ahead, or that):");
        LampRound x = Villages.row(3, 0);
        due.told(x, 2, "path 0 to 1 in 20;path 1 to 2 in 21;", 2);
        due.told(x, 3, "need read at 1 from 0 to 9 worth 1;need read at 2 from 0 to 9 worth 2;", 2);
        due.is("2 is beyond DUSK", x.plan(10, 0), 1);
        due.is("its way", x.plan(10, 1), 20);
        x.set(3, 0, 21);
        due.is("DUSK 21, one NIGHT", x.plan(1, 0), 1);
        due.is("DUSK 21, two NIGHTS", x.plan(2, 0), 3);
        due.is("its way", x.plan(2, 1), 41);
        x.set(3, 0, 41);
        due.is("DUSK 41, one NIGHT", x.plan(1, 0), 2);
        due.is("its way", x.plan(1, 1), 41);
        x.set(3, 0, 19);
        due.is("DUSK 19: stays", x.plan(10, 0), 0);
        for (int k = 0; k < 10; k++) due.is("NIGHT " + k, x.plan(10, 10 + k), 0);
        x.set(5, 0, 2);
        due.is("stays where it is", x.plan(1, 0), 2);
        due.is("HOUSE", x.plan(1, 10), 2);
        // The longest way: nine times 99.
        LampRound y = Villages.row(2, 0);
        y.set(3, 0, 99);
        due.told(y, 2, "path 0 to 1 in 99;", 1);
        StringBuilder s = new StringBuilder();
        for (int k = 0; k < 10; k++) s.append("need read at" + (1 - k % 2) + "from" + k + "to" + k + "worth99;");
        due.told(y, 3, s.toString(), 10);
        due.is("worth of all", y.plan(10, 0), 990);
        due.is("the way", y.plan(10, 1), 990);
        for (int k = 0; k < 10; k++) due.is("NIGHT " + k, y.plan(10, 10 + k), 1 - k % 2);
    }

    private void planChooses() {
        doc.says("the most worth of NEEDS that are done in them; with that the least sum of FAR; of several the first (NIGHT by "
            + "NIGHT, the lesser HOUSE): worth, way, the HOUSE of each NIGHT.");
        // One of worth more ahead of a lesser way.
        LampRound x = Villages.row(3, 0);
        due.told(x, 2, "path 0 to 1 in 19;path 0 to 2 in 1;", 2);
        due.told(x, 3, "need read at 1 from 0 to 0 worth 8;need read at 2 from 0 to 0 worth 7;", 2);
        due.is("worth", x.plan(1, 0), 8);
        due.is("way", x.plan(1, 1), 19);
        // Alike in worth: the lesser way, though its HOUSE is the greater one.
        due.told(x, 3, "need read at 1 from 0 to 0 worth 7;need read at 2 from 0 to 0 worth 7;", 2);
        due.is("way", x.plan(1, 1), 1);
        due.is("HOUSE", x.plan(1, 10), 2);
        // Alike in both: the lesser HOUSE, in the first NIGHT in which they are others.
        LampRound y = Villages.row(3, 0);
        due.told(y, 2, "path 0 to 1 in 5;path 0 to 2 in 5;", 2);
        due.told(y, 3, "need read at 1 from 0 to 0 worth 7;need read at 2 from 0 to 0 worth 7;", 2);
        due.is("HOUSE", y.plan(1, 10), 1);
        due.is("stays there", y.plan(3, 12), 1);
        // Either at once or later: to stay at 0 for long is the first row.
        due.told(y, 3, "need read at 2 from 0 to 9 worth 7;", 1);
        for (int k = 0; k < 5; k++) due.is("NIGHT " + k, y.plan(5, 10 + k), k < 4 ? 0 : 2);
        y.set(5, 0, 2);
        due.told(y, 3, "need read at 0 from 0 to 9 worth 7;", 1);
        for (int k = 0; k < 5; k++) due.is("NIGHT " + k, y.plan(5, 10 + k), 0);
        due.is("nothing to be done", planOfNothing(), 0);
        // Ten HOUSES, ten NEEDS, ten NIGHTS: from the last HOUSE down to the first.
        LampRound z = Villages.street(10, 0);
        z.set(5, 0, 9);
        StringBuilder s = new StringBuilder();
        for (int h = 9; h >= 0; h--) s.append("need read at" + h + "from" + (9 - h) + "to" + (9 - h) + "worth1;");
        due.told(z, 3, s.toString(), 10);
        due.is("worth of ten", z.plan(10, 0), 10);
        due.is("way of ten", z.plan(10, 1), 9);
        for (int k = 0; k < 10; k++) due.is("NIGHT " + k, z.plan(10, 10 + k), 9 - k);
        due.told(z, 3, "need read at0from0to9worth1;need read at9from0to9worth1;", 2);
        due.is("to the first and back, or not at all", z.plan(1, 0), 1);
        due.is("stays", z.plan(1, 10), 9);
    }

    private int planOfNothing() {
        LampRound x = Villages.street(3, 0);
        x.set(5, 0, 2);
        for (int k = 0; k < 10; k++) due.is("stays in NIGHT " + k, x.plan(10, 10 + k), 2);
        LampRound y = Villages.street(10, 0);
        y.set(5, 0, 9);
        for (int k = 0; k < 10; k++) due.is("stays in NIGHT " + k, y.plan(10, 10 + k), 9);
        return x.plan(10, 0) + x.plan(10, 1) + y.plan(10, 0) + y.plan(10, 1);
    }

    private void planBrides() {
        LampRound x = Villages.street(2, 1);
        due.told(x, 3, "need bride at 0 from 0 to 1 worth 9;", 1);
        due.is("one NIGHT: none was ahead", x.plan(1, 0), 0);
        due.is("two NIGHTS", x.plan(2, 0), 9);
        x.nights(1);
        due.is("LIT there in the NIGHT ahead", x.plan(1, 0), 9);
        LampRound y = Villages.street(2, 0);
        due.told(y, 3, "need bride at 0 from 0 to 2 worth 9;", 1);
        y.nights(1);
        due.is("DARK there in the NIGHT ahead", y.plan(1, 0), 0);
        due.is("two NIGHTS", y.plan(2, 0), 9);
        y.nights(1);
        due.is("one NIGHT is left of it", y.plan(10, 0), 0);
        // Away for a NIGHT between: not together.
        LampRound z = Villages.street(2, 0);
        due.told(z, 3, "need bride at 0 from 2 to 2 worth 9;need read at 1 from 1 to 1 worth 9;", 2);
        due.is("one of both", z.plan(3, 0), 9);
        due.is("the way", z.plan(3, 1), 0);
    }

    private void planIsRefused() {
        doc.says("`int plan(int n, int what)`: PLAN what 0 worth, 1 the way, 10 + k the HOUSE of the k-th NIGHT (0 the first). NONE if "
            + "one can't be, or another what.");
        LampRound x = Villages.row(1, 0);
        for (int n : new int[] {0, 11, -1, MIN, MAX})
            for (int what : new int[] {0, 1, 10, 19}) due.is("plan(" + n + ", " + what + ")", x.plan(n, what), NONE);
        for (int n = 1; n <= 10; n++) {
            due.is("plan(" + n + ", 0)", x.plan(n, 0), 0);
            due.is("plan(" + n + ", 1)", x.plan(n, 1), 0);
            due.is("the last NIGHT of " + n, x.plan(n, 9 + n), 0);
            due.is("the one behind", x.plan(n, 10 + n), NONE);
            for (int what : new int[] {-1, 2, 9, 20, MIN, MAX}) due.is("plan(" + n + ", " + what + ")", x.plan(n, what), NONE);
        }
        for (int what : new int[] {0, 1, 10}) due.is("no HOUSE", new LampRound().plan(1, what), NONE);
    }

    /** Two HOUSES with that PEOPLE that had so many NIGHTS. */
    private static LampRound had(int people, int had, int otherPeople, int otherHad) {
        LampRound x = new LampRound();
        x.house(0, people, 0);
        x.house(1, otherPeople, 0);
        Due.tell(x, 1, "burn 0;");
        pass(x, 0, had);
        pass(x, 1, otherHad);
        return x;
    }

    private static void pass(LampRound x, int house, int nights) {
        x.set(5, 0, house);
        for (int left = nights; left > 0; left -= 60) x.nights(Math.min(60, left));
    }

    private void envies() {
        doc.says("A HOUSE a ENVIES b, if HAD of b times PEOPLE of a is above HAD and MARGIN of a times PEOPLE of b.");
        // 3 by 1 and 5 by 2: 6 above 5; with one more 6 is not above 6.
        LampRound x = had(1, 3, 2, 5);
        due.is("6 above 5", x.of(1, 12), 1);
        due.is("5 above 6", x.of(0, 12), 0);
        x.set(2, 0, 1);
        due.is("6 above 6", x.of(1, 12), 0);
        due.is("alike", had(1, 3, 2, 6).of(1, 12) + had(1, 3, 2, 6).of(0, 12), 0);
        LampRound y = had(1, 3, 2, 7);
        due.is("7 above 6", y.of(0, 12), 2);
        y.set(2, 0, 1);
        // MARGIN of a is times PEOPLE of b: 3 and 1 by 2.
        due.is("7 above 8", y.of(0, 12), 0);
        LampRound z = had(20, 0, 1, 100);
        z.set(2, 0, 99);
        due.is("2000 above 99", z.of(0, 12), 2);
        LampRound w = had(1, 0, 20, 99);
        due.is("99 above 0", w.of(0, 12), 2);
        w.set(2, 0, 4);
        due.is("99 above 80", w.of(0, 12), 2);
        w.set(2, 0, 5);
        due.is("99 above 100", w.of(0, 12), 0);
        due.is("all without a NIGHT", Villages.row(3, 0).of(0, 12), 0);
    }

    private void mendLeast() {
        doc.says("MEND: the least HAD of all HOUSES, each not below what it is, so that none ENVIES another one: how many NIGHTS more "
            + "all together, of a HOUSE");
        due.is("nothing to mend", had(1, 3, 2, 6).mend(NONE), 0);
        // 3 by 1 and 5 by 2: 6 by 2.
        due.is("all", had(1, 3, 2, 5).mend(NONE), 1);
        due.is("of 0", had(1, 3, 2, 5).mend(0), 0);
        due.is("of 1", had(1, 3, 2, 5).mend(1), 1);
        // 3 by 1 and 7 by 2: then 4 by 1, and so 8 by 2.
        due.is("of 0", had(1, 3, 2, 7).mend(0), 1);
        due.is("of 1", had(1, 3, 2, 7).mend(1), 1);
        LampRound x = had(1, 3, 2, 7);
        x.set(2, 0, 1);
        due.is("by a MARGIN none", x.mend(NONE), 0);
        // 7 by 20 and none by 1: 1 by 1 of it, and so 20 by 20, less MARGIN.
        due.is("of 0", had(20, 7, 1, 0).mend(0), 13);
        due.is("of 1", had(20, 7, 1, 0).mend(1), 1);
        due.is("all", had(20, 7, 1, 0).mend(NONE), 14);
        LampRound y = had(1, 100, 1, 0);
        y.set(2, 0, 99);
        due.is("100 less 99", y.mend(1), 1);
        LampRound z = had(1, 99, 1, 0);
        z.set(2, 0, 99);
        due.is("99 less 99", z.mend(1), 0);
        due.is("HAD stays", z.of(1, 4), 0);
    }

    private void mendMost() {
        doc.says("(9999 more of one at most; else it can't be).");
        // 5000 by 1 asks 10000 by 2.
        LampRound x = had(1, 4999, 2, 0);
        due.is("9998 more", x.mend(1), 9998);
        pass(x, 0, 1);
        for (int house = -1; house < 2; house++) due.is("10000 more: mend(" + house + ")", x.mend(house), NONE);
        x.set(2, 0, 1);
        due.is("9999 more", x.mend(1), 9999);
        due.is("all together", x.mend(NONE), 9999);
        due.is("none more", x.mend(0), 0);
        x.set(2, 0, 0);
        pass(x, 1, 1);
        due.is("9999 more than 1", x.mend(1), 9999);
        due.is("all together", x.mend(NONE), 9999);
        // All together may be more: nine HOUSES 9999 each.
        LampRound y = Villages.row(10, 0);
        Due.tell(y, 1, "burn 0;");
        pass(y, 0, 9999);
        due.is("all together", y.mend(NONE), 89991);
        due.is("of the last", y.mend(9), 9999);
        y.set(6, 9, 2);
        due.is("one of them 19998", y.mend(NONE), NONE);
        due.is("of another one", y.mend(1), NONE);
    }

    private void mendIsRefused() {
        doc.says("`int mend(int house)`: MEND: how many NIGHTS more (house NONE: all together); NONE if it can't be, or there is none "
            + "such.");
        due.is("no HOUSE: all together", new LampRound().mend(NONE), 0);
        due.is("no HOUSE", new LampRound().mend(0), NONE);
        LampRound x = Villages.row(2, 0);
        due.is("mend(1)", x.mend(1), 0);
        for (int h : new int[] {-2, 2, 10, MIN, MAX}) due.is("mend(" + h + ")", x.mend(h), NONE);
        LampRound y = Villages.row(10, 0);
        due.is("mend(9)", y.mend(9), 0);
        due.is("mend(10)", y.mend(10), NONE);
    }

    private void rooms() {
        doc.says("ROOMS: the most pairs of FRIENDS, no HOUSE in two; with whom a HOUSE is: of several ways the first (HOUSE by HOUSE, "
            + "the lesser one, none last).");
        LampRound x = Villages.row(10, 0);
        due.is("no FRIENDS", x.rooms(0), 0);
        for (int h = 0; h < 9; h++) {
            x.friends(h, h + 1, true);
            due.is("a row of " + (h + 2), x.rooms(0), (h + 2) / 2);
        }
        for (int h = 0; h < 10; h++) due.is("with " + h, x.rooms(10 + h), h ^ 1);
        x.friends(0, 1, false);
        due.is("1 to 9: four", x.rooms(0), 4);
        int[] want = {NONE, 2, 1, 4, 3, 6, 5, 8, 7, NONE};
        for (int h = 0; h < 10; h++) due.is("with " + h, x.rooms(10 + h), want[h]);
        // All are FRIENDS: the first way. Then none but with 9: one pair, the lesser one.
        LampRound y = Villages.row(10, 0);
        for (int a = 0; a < 10; a++) for (int b = a + 1; b < 10; b++) y.friends(a, b, true);
        due.is("five", y.rooms(0), 5);
        for (int h = 0; h < 10; h++) due.is("with " + h, y.rooms(10 + h), h ^ 1);
        LampRound z = Villages.row(10, 0);
        for (int h = 1; h < 9; h++) z.friends(9, h, true);
        due.is("no HOUSE in two", z.rooms(0), 1);
        due.is("0 has no FRIEND", z.rooms(10), NONE);
        due.is("1 ahead of others", z.rooms(11), 9);
        due.is("2 is alone", z.rooms(12), NONE);
        due.is("9 with 1", z.rooms(19), 1);
        LampRound v = Villages.row(4, 0);
        v.friends(0, 2, true);
        v.friends(0, 1, true);
        due.is("0 with the lesser one", v.rooms(10), 1);
        due.is("and that with 0", v.rooms(11), 0);
        due.is("the other one alone", v.rooms(12), NONE);
        // None is last: 0 with 3, though then 1 is with 2 and not with 3.
        LampRound w = Villages.row(4, 0);
        w.friends(0, 3, true);
        w.friends(1, 3, true);
        w.friends(1, 2, true);
        int[] with = {3, 2, 1, 0};
        for (int h = 0; h < 4; h++) due.is("with " + h, w.rooms(10 + h), with[h]);
    }

    private void roomsIsRefused() {
        doc.says("`int rooms(int what)`: ROOMS what 0 how many, 10 + h with whom HOUSE h is (NONE). NONE for another what.");
        LampRound x = Villages.row(2, 0);
        x.friends(0, 1, true);
        due.is("rooms(0)", x.rooms(0), 1);
        due.is("rooms(10)", x.rooms(10), 1);
        due.is("rooms(11)", x.rooms(11), 0);
        for (int what : new int[] {-1, 1, 2, 9, 12, 19, 20, MIN, MAX}) due.is("rooms(" + what + ")", x.rooms(what), NONE);
        due.is("no HOUSE", new LampRound().rooms(0), 0);
        due.is("no HOUSE", new LampRound().rooms(10), NONE);
        LampRound y = Villages.row(10, 0);
        y.friends(0, 9, true);
        due.is("rooms(19)", y.rooms(19), 0);
        due.is("rooms(20)", y.rooms(20), NONE);
    }

    private void sale() {
        doc.says("SALE: the HOUSE with the greatest BID above 0 (of several the least); the price: the greatest BID of the others (0).");
        doc.says("`int sale(int what)`: SALE what 0 the HOUSE (NONE), 1 the price (NONE). NONE for another what.");
        LampRound x = Villages.row(3, 0);
        due.is("BIDS of 0", x.sale(0), NONE);
        due.is("BIDS of 0", x.sale(1), NONE);
        x.set(9, 2, 1);
        due.is("a BID of 1", x.sale(0), 2);
        due.is("nobody else's", x.sale(1), 0);
        x.set(9, 1, 1);
        due.is("of two the least", x.sale(0), 1);
        due.is("the other one's", x.sale(1), 1);
        x.set(9, 2, 99);
        due.is("the greatest", x.sale(0), 2);
        due.is("the second", x.sale(1), 1);
        x.set(9, 0, 98);
        due.is("99 above 98", x.sale(0), 2);
        due.is("98", x.sale(1), 98);
        x.set(9, 0, 99);
        due.is("of two the least", x.sale(0), 0);
        due.is("99", x.sale(1), 99);
        for (int what : new int[] {-1, 2, 10, MIN, MAX}) due.is("sale(" + what + ")", x.sale(what), NONE);
        LampRound z = Villages.row(10, 0);
        z.set(9, 0, 8);
        z.set(9, 9, 9);
        due.is("the last HOUSE", z.sale(0), 9);
        due.is("the first one's", z.sale(1), 8);
        LampRound y = Villages.row(1, 0);
        y.set(9, 0, 5);
        due.is("alone", y.sale(0), 0);
        due.is("without others", y.sale(1), 0);
        due.is("no HOUSE", new LampRound().sale(0), NONE);
        due.is("no HOUSE", new LampRound().sale(1), NONE);
    }

    private void liars() {
        doc.says("LIARS: HOUSES that SAY another number than they HAD.");
        doc.says("`int liars()`: LIARS, as a set.");
        LampRound x = Villages.row(10, 9);
        due.is("all had none and say so", x.liars(), 0);
        x.nights(3);
        for (int says = 2; says <= 4; says++) {
            x.set(10, 0, says);
            due.is("says " + says + " of 3", x.liars(), says == 3 ? 0 : 1);
        }
        for (int h = 1; h < 10; h++) x.set(10, h, 1);
        due.is("all", x.liars(), 1023);
        x.set(10, 0, 3);
        due.is("all but the first", x.liars(), 1022);
        due.is("no HOUSE", new LampRound().liars(), 0);
    }
}
