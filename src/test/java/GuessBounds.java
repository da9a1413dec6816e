/** Boundaries of SURE, BEST, SIGHT, CLUES, WAYS and ASK. */
final class GuessBounds {
    private static final int NONE = BoundsTest.NONE, MIN = BoundsTest.MIN, MAX = BoundsTest.MAX;
    private static final int MILLION = 1000000;

    private final BoundsTest test;
    private final Due due;
    private final Doc doc;

    GuessBounds(BoundsTest test) {
        this.test = test;
        due = test.due;
        doc = test.doc;
    }

    void check() {
        sure();
        sureEnds();
        sureReaches();
        sureIsRefused();
        best();
        bestIsRefused();
        sightApart();
        sightBetween();
        clues();
        cluesAreRefused();
        ways();
        waysByClues();
        been();
        ask();
        askIsRefused();
    }

    /** How sure two HOUSES with a PATH until that SNOW are behind k NIGHTS. */
    private static int sure(int snow, int flakes, int until, int k) {
        LampRound x = Villages.row(2, 0);
        Due.tell(x, 2, "path 0 to 1 in 1 until " + until + ";");
        x.set(0, 0, snow);
        x.set(1, 0, flakes);
        return x.sure(0, 1, k);
    }

    private void sure() {
        doc.says("SURE: how likely, of a million, a goal is REACHED from a HOUSE behind k (1 .. 9) NIGHTS' SNOW: SNOW as it is has a "
            + "million; with each NIGHT what SNOW s has goes to s and 1 (9 at most) by FLAKES of a thousand, downwards, the rest to "
            + "s less 1 (0 at least) (FLAKES 0: it stays);");
        for (int k = 1; k <= 9; k += 8) {
            due.is("FLAKES 0: it stays", sure(5, 0, 5, k), MILLION);
            due.is("FLAKES 0: it stays", sure(5, 0, 4, k), 0);
        }
        // FLAKES 1 from 5: 999000 to 4, 1000 to 6; then 998001 to 3, 1998 to 5, 1 to 7.
        int[] first = {0, 0, 0, 0, 999000, 999000, MILLION, MILLION, MILLION, MILLION};
        int[] second = {0, 0, 0, 998001, 998001, 999999, 999999, MILLION, MILLION, MILLION};
        // Of 998001 998 go to 4, of 1998 1 to 6, of 1 nothing: each downwards.
        int[] third = {0, 0, 997003, 997003, 997003 + 998 + 1997, 999998, MILLION, MILLION, MILLION, MILLION};
        for (int until = 0; until < 10; until++) {
            due.is("behind 1, until " + until, sure(5, 1, until, 1), first[until]);
            due.is("behind 2, until " + until, sure(5, 1, until, 2), second[until]);
            due.is("behind 3, until " + until, sure(5, 1, until, 3), third[until]);
        }
        due.is("FLAKES 999", sure(5, 999, 4, 1), 1000);
        due.is("FLAKES 999", sure(5, 999, 5, 1), 1000);
        due.is("FLAKES 999", sure(5, 999, 6, 1), MILLION);
        due.is("FLAKES 500", sure(5, 500, 4, 1), 500000);
    }

    private void sureEnds() {
        // FLAKES 1000: each NIGHT one more, 9 at most.
        for (int k = 1; k <= 9; k++) {
            due.is("from 0 behind " + k + ", until " + (k - 1), sure(0, 1000, k - 1, k), 0);
            due.is("from 0 behind " + k + ", until " + k, sure(0, 1000, k, k), MILLION);
            due.is("from 9 behind " + k + ", until 8", sure(9, 1000, 8, k), 0);
            due.is("from 9 behind " + k + ", until 9", sure(9, 1000, 9, k), MILLION);
        }
        // 0 at least: 999000 stay at 0, then 999 come back from 1.
        due.is("from 0 behind 1, until 0", sure(0, 1, 0, 1), 999000);
        due.is("from 0 behind 2, until 0", sure(0, 1, 0, 2), 998001 + 999);
        due.is("from 0 behind 2, until 1", sure(0, 1, 1, 2), 999999);
        // 9 at most: 999000 stay at 9, then 999 come back from 8.
        due.is("from 9 behind 1, until 8", sure(9, 999, 8, 1), 1000);
        due.is("from 9 behind 2, until 8", sure(9, 999, 8, 2), 1000);
        due.is("from 9 behind 2, until 7", sure(9, 999, 7, 2), 1);
    }

    private void sureReaches() {
        doc.says("then what those SNOWS have by which it is REACHED, added.");
        LampRound x = Villages.row(3, 0);
        due.told(x, 2, "path 0 to 1 in 20 until 4;path 0 to 1 in 21;path 0 to 2 in 20;", 3);
        x.set(0, 0, 5);
        x.set(1, 0, 500);
        due.is("20 while it is open", x.sure(0, 1, 1), 500000);
        due.is("from the other side", x.sure(1, 0, 1), 500000);
        x.set(3, 0, 21);
        due.is("21 by DUSK 21", x.sure(0, 1, 1), MILLION);
        x.set(3, 0, 19);
        due.is("none by DUSK 19", x.sure(0, 1, 1), 0);
        for (int h = 0; h < 3; h++) due.is("itself", x.sure(h, h, 9), MILLION);
        due.is("SNOW stays", x.look(20), 5);
        due.is("FAR by it, too", x.far(0, 1), 21);
    }

    private void sureIsRefused() {
        doc.says("`int sure(int house, int goal, int k)`: SURE from a HOUSE; NONE if one can't be.");
        LampRound x = Villages.street(2, 0);
        for (int k : new int[] {1, 9}) due.is("sure(0, 1, " + k + ")", x.sure(0, 1, k), MILLION);
        for (int k : new int[] {0, 10, -1, MIN, MAX}) due.is("sure(0, 1, " + k + ")", x.sure(0, 1, k), NONE);
        for (int h : new int[] {-1, 2, 10, MIN, MAX}) {
            due.is("sure(" + h + ", 0, 1)", x.sure(h, 0, 1), NONE);
            due.is("sure(0, " + h + ", 1)", x.sure(0, h, 1), NONE);
            due.is("sure(" + h + ", " + h + ", 1)", x.sure(h, h, 1), NONE);
        }
        due.is("no HOUSE", new LampRound().sure(0, 0, 1), NONE);
        LampRound y = Villages.street(10, 0);
        due.is("from the first to the last of ten", y.sure(0, 9, 9), MILLION);
        due.is("and back", y.sure(9, 0, 9), MILLION);
        due.is("no 11th", y.sure(0, 10, 9), NONE);
    }

    private void best() {
        doc.says("BEST: of HOUSES that are REACHED from THE LAMP now that with the greatest; of several the least.");
        LampRound x = Villages.row(4, 0);
        due.told(x, 2, "path 0 to 1 in 20;path 0 to 2 in 21;path 1 to 3 in 20 until 0;path 2 to 3 in 20;", 4);
        x.set(1, 0, 500);
        due.is("2 is surer, but not REACHED", x.best(3, 1), 1);
        x.set(3, 0, 21);
        due.is("2 is REACHED", x.best(3, 1), 2);
        due.is("for 2: 0, 2 and 3 are alike, the least", x.best(2, 1), 0);
        x.set(5, 0, 3);
        due.is("from 3 for 2: 2 and 3 are alike, and 0 is not REACHED", x.best(2, 1), 2);
        // No one can: the least that is REACHED.
        LampRound y = Villages.row(4, 0);
        due.told(y, 2, "path 2 to 1 in 1;", 1);
        y.set(5, 0, 2);
        due.is("for 0 none", y.best(0, 1), 1);
        due.is("for 3 none", y.best(3, 9), 1);
        due.is("for itself: 1 is alike", y.best(2, 9), 1);
        y.set(5, 0, 3);
        due.is("alone", y.best(2, 1), 3);
        LampRound z = Villages.street(10, 0);
        z.set(3, 0, 1);
        z.set(5, 0, 9);
        due.is("the last of ten", z.best(8, 1), 8);
        due.is("for the first none", z.best(0, 1), 8);
        z.set(5, 0, 0);
        due.is("for the last none", z.best(9, 1), 0);
    }

    private void bestIsRefused() {
        doc.says("`int best(int goal, int k)`: BEST; NONE if one can't be.");
        LampRound x = Villages.street(2, 0);
        for (int k : new int[] {1, 9}) due.is("best(1, " + k + ")", x.best(1, k), 0);
        for (int k : new int[] {0, 10, -1, MIN, MAX}) due.is("best(1, " + k + ")", x.best(1, k), NONE);
        for (int h : new int[] {-1, 2, 10, MIN, MAX}) due.is("best(" + h + ", 1)", x.best(h, 1), NONE);
        due.is("no HOUSE", new LampRound().best(0, 1), NONE);
    }

    /** Whether a HOUSE at the first place sees by the light of one at the second, the others being there, too. */
    private void sees(boolean want, int from, int to, int... others) {
        LampRound x = new LampRound();
        x.house(from, 1, 0);
        for (int place : others) x.house(place, 1, 0);
        int last = x.house(to, 1, 0);
        String call = from + " by the light of " + to + " among " + others.length;
        due.is(call, x.of(0, 13) >> last & 1, want ? 1 : 0);
        due.is(call + ", the other way", x.of(last, 13) & 1, want ? 1 : 0);
    }

    private void sightApart() {
        doc.says("SIGHT: a HOUSE sees by the light of another one, if they are at most 5 apart (x and y steps),");
        // Places are 8 y + x.
        sees(true, 0, 5);
        sees(false, 0, 6);
        sees(true, 0, 40);
        sees(false, 0, 48);
        sees(true, 0, 8 * 2 + 3);
        sees(false, 0, 8 * 3 + 3);
        sees(true, 7, 8 * 1 + 3);
        sees(false, 7, 8 * 1 + 2);
        sees(false, 7, 8);
        sees(false, 0, 63);
        sees(true, 63, 8 * 4 + 5);
        sees(false, 63, 8 * 4 + 4);
        due.is("not by its own", Villages.row(1, 0).of(0, 13), 0);
    }

    private void sightBetween() {
        doc.says("and no third one is just on the line between both.");
        sees(false, 0, 2, 1);
        sees(false, 0, 5, 1);
        sees(false, 0, 5, 4);
        sees(false, 0, 16, 8);
        sees(false, 0, 18, 9);
        sees(false, 2, 16, 9);
        sees(false, 10, 26, 18);
        // On the line, but not between; or beside it.
        sees(true, 1, 3, 0, 4, 5);
        sees(true, 9, 18, 0, 27);
        sees(true, 0, 18, 1, 8, 10, 17);
        sees(true, 0, 17, 1, 8, 9, 16);
        sees(true, 0, 5, 8, 9, 10, 11, 12, 13);
        sees(true, 0, 8 * 2 + 3, 9, 10, 1, 8, 17, 18);
        sees(false, 0, 5, 8, 9, 10, 3, 12, 13);
        LampRound x = Villages.row(3, 0);
        LampRound y = new LampRound();
        for (int place : new int[] {1, 0, 2}) y.house(place, 1, 0);
        due.is("the third one has come last", x.of(0, 13), 2);
        due.is("the third one has come first", y.of(1, 13), 1);
        due.is("it sees both", y.of(0, 13), 6);
    }

    private void clues() {
        doc.says("CLUES: up to 8: in a NIGHT n (0 .. 9, counted from an unknown one on) THE LAMP was in one of a set of HOUSES (none at "
            + "first).");
        LampRound x = Villages.row(10, 0);
        due.is("none at first", x.look(10), 0);
        due.is("NIGHT 0", x.clue(0, 1), 1);
        due.is("NIGHT 9", x.clue(9, 1023), 2);
        for (int i = 3; i <= 8; i++) due.is("clue " + i, x.clue(i, 512), i);
        due.is("the 9th", x.clue(1, 1), NONE);
        due.is("look(10)", x.look(10), 8);
        due.is("none then", x.clue(NONE, 0), 0);
        due.is("look(10)", x.look(10), 0);
        due.is("anew", x.clue(0, 1), 1);
    }

    private void cluesAreRefused() {
        doc.says("`int clue(int night, int set)`: A CLUE comes (night NONE: none is there then): how many there are; NONE if one can't "
            + "be (an empty set, others than HOUSES), or there are eight.");
        test.refused("clue(_, 1)", (x, n) -> x.clue(n, 1), NONE, -2, 10, MIN, MAX);
        test.refused("clue(0, _)", (x, n) -> x.clue(0, n), NONE, 0, 8, 9, 15, -1, MIN, MAX);
        LampRound x = Villages.busy();
        due.is("all HOUSES", x.clue(9, 7), 3);
        due.is("the last HOUSE", x.clue(0, 4), 4);
        for (int set : new int[] {0, 1, 8, -1, MIN, MAX}) {
            LampRound y = Villages.busy();
            due.is("clue(NONE, " + set + ")", y.clue(NONE, set), 0);
            due.is("look(10)", y.look(10), 0);
        }
        due.is("no HOUSE", new LampRound().clue(0, 1), NONE);
        due.is("no HOUSE, none then", new LampRound().clue(NONE, 1), 0);
        LampRound z = Villages.row(10, 0);
        due.is("ten HOUSES", z.clue(0, 1023), 1);
        due.is("an 11th", z.clue(0, 1024), NONE);
        due.is("an 11th among others", z.clue(0, 1025), NONE);
        for (int i = 2; i <= 8; i++) z.clue(0, 1);
        due.is("eight are there", z.clue(0, 2), NONE);
        due.is("and count", z.ways(1), 1);
        due.is("the refused one doesn't", z.been(1, 0), 1);
    }

    private void ways() {
        doc.says("WAYS of n (1 .. 10) NIGHTS: rows of HOUSES, each one REACHED from the one ahead (or that),");
        doc.says("`long ways(int n)`: WAYS; NONE if one can't be.");
        LampRound x = Villages.street(10, 0);
        long power = 1;
        for (int n = 1; n <= 10; n++) {
            power *= 10;
            due.is("all rows of " + n, x.ways(n), power);
        }
        for (int n : new int[] {0, 11, -1, MIN, MAX}) due.is("ways(" + n + ")", x.ways(n), NONE);
        LampRound y = Villages.row(10, 0);
        for (int n = 1; n <= 10; n += 9) due.is("each one stays", y.ways(n), 10);
        LampRound z = Villages.row(3, 0);
        due.told(z, 2, "path 0 to 1 in 20;path 1 to 2 in 21;", 2);
        due.is("20 is REACHED, 21 is not", z.ways(2), 5);
        z.set(3, 0, 21);
        due.is("21 is, 41 is not", z.ways(2), 7);
        z.set(3, 0, 41);
        due.is("41 is", z.ways(2), 9);
        due.is("THE LAMP is not asked", z.ways(1), 3);
        due.is("no HOUSE", new LampRound().ways(10), 0);
        due.is("no HOUSE", new LampRound().ways(0), NONE);
    }

    private void waysByClues() {
        doc.says("that agree with all CLUES of these NIGHTS: how many; the HOUSES that it can have been at in a NIGHT (a set).");
        LampRound x = Villages.street(3, 0);
        x.clue(3, 1);
        due.is("a CLUE of the NIGHT behind", x.ways(3), 27);
        due.is("a CLUE of the last NIGHT", x.ways(4), 27);
        x.clue(3, 3);
        due.is("two of one NIGHT that agree", x.ways(4), 27);
        x.clue(3, 6);
        due.is("two of one NIGHT that don't", x.ways(4), 0);
        due.is("ahead of it", x.ways(3), 27);
        x.clue(NONE, 0);
        x.clue(9, 4);
        due.is("NIGHT 9 of 9", x.ways(9), 19683);
        due.is("NIGHT 9 of 10", x.ways(10), 19683);
        x.clue(0, 3);
        due.is("NIGHT 0 of 1", x.ways(1), 2);
        // A HOUSE that comes later is in no CLUE's set.
        LampRound y = Villages.row(1, 0);
        y.clue(0, 1);
        y.house(9, 1, 0);
        due.is("the new one is not meant", y.ways(1), 1);
        y.clue(0, 2);
        due.is("nor both", y.ways(1), 0);
    }

    private void been() {
        doc.says("`int been(int n, int night)`: By WAYS of n NIGHTS the HOUSES of a NIGHT, as a set; NONE if one can't be.");
        LampRound x = Villages.street(3, 0);
        x.set(3, 0, 1);
        x.clue(0, 1);
        int[] want = {1, 3, 7, 7};
        for (int night = 0; night < 4; night++) due.is("NIGHT " + night + " of 4", x.been(4, night), want[night]);
        x.clue(3, 4);
        int[] then = {1, 3, 6, 4};
        for (int night = 0; night < 4; night++) due.is("NIGHT " + night + " of 4", x.been(4, night), then[night]);
        for (int n = 1; n <= 10; n++) {
            due.is("the NIGHT behind " + n, x.been(n, n), NONE);
            due.yes("the last NIGHT of " + n, x.been(n, n - 1) > 0);
        }
        for (int night : new int[] {-1, 4, MIN, MAX}) due.is("been(4, " + night + ")", x.been(4, night), NONE);
        for (int n : new int[] {0, 11, -1, MIN, MAX}) due.is("been(" + n + ", 0)", x.been(n, 0), NONE);
        x.clue(1, 4);
        for (int night = 0; night < 4; night++) due.is("no WAYS", x.been(4, night), 0);
        due.is("no HOUSE", new LampRound().been(1, 0), 0);
    }

    private void ask() {
        doc.says("ASK: the NIGHT and HOUSE for which of both parts (there, not there) of these WAYS the greater one is least; of several "
            + "the first (NIGHT, then HOUSE).");
        LampRound x = Villages.street(2, 0);
        due.is("all alike: NIGHT 0", x.ask(10, 0), 0);
        due.is("all alike: HOUSE 0", x.ask(10, 1), 0);
        x.clue(0, 2);
        due.is("NIGHT 0 is known", x.ask(10, 0), 1);
        due.is("HOUSE 0", x.ask(10, 1), 0);
        for (int night = 1; night < 7; night++) x.clue(night, 1);
        x.clue(7, 1);
        due.is("8 are known", x.ask(10, 0), 8);
        due.is("of 9 there is 8 left", x.ask(9, 0), 8);
        due.is("of 8 all are known: the first", x.ask(8, 0), 0);
        due.is("HOUSE 0", x.ask(8, 1), 0);
        // 0 - 1 - 2 in one NIGHT: 1 of three each; in two 0: 2, 1: 3, 2: 2 of seven.
        LampRound y = Villages.street(3, 0);
        y.set(3, 0, 1);
        due.is("one NIGHT: the first HOUSE", y.ask(1, 1), 0);
        due.is("two NIGHTS: the first NIGHT", y.ask(2, 0), 0);
        due.is("two NIGHTS: at 1", y.ask(2, 1), 1);
        // There is as good as not there: 1 of 2 either way.
        y.clue(0, 6);
        due.is("of 1 and 2 the first", y.ask(1, 1), 1);
        y.clue(0, 4);
        due.is("known: all are alike", y.ask(1, 1), 0);
        LampRound z = Villages.row(10, 0);
        z.clue(9, 512);
        due.is("one way", z.ask(10, 0), 0);
        due.is("one way", z.ask(10, 1), 0);
    }

    private void askIsRefused() {
        doc.says("`int ask(int n, int what)`: ASK by WAYS of n NIGHTS what 0 the NIGHT, 1 the HOUSE. NONE without WAYS, if one can't be, or "
            + "another what.");
        LampRound x = Villages.street(2, 0);
        for (int n : new int[] {1, 10})
            for (int what = 0; what < 2; what++) due.is("ask(" + n + ", " + what + ")", x.ask(n, what), 0);
        for (int n : new int[] {0, 11, -1, MIN, MAX})
            for (int what = 0; what < 2; what++) due.is("ask(" + n + ", " + what + ")", x.ask(n, what), NONE);
        for (int what : new int[] {-1, 2, MIN, MAX}) due.is("ask(1, " + what + ")", x.ask(1, what), NONE);
        x.clue(1, 1);
        x.clue(1, 2);
        for (int what = 0; what < 2; what++) {
            due.is("ahead of the CLUES", x.ask(1, what), 0);
            due.is("without WAYS", x.ask(2, what), NONE);
            due.is("no HOUSE", new LampRound().ask(1, what), NONE);
        }
    }
}
