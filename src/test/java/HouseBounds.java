/** Boundaries of the Terms' part 1, and of the calls that tell it or look at it. */
final class HouseBounds {
    private static final int NONE = BoundsTest.NONE, MIN = BoundsTest.MIN, MAX = BoundsTest.MAX;

    private final BoundsTest test;
    private final Due due;
    private final Doc doc;

    HouseBounds(BoundsTest test) {
        this.test = test;
        due = test.due;
        doc = test.doc;
    }

    void check() {
        newObject();
        state();
        draws();
        numbers();
        places();
        people();
        oil();
        houseIsRefused();
        firstValues();
        lamp();
        setForAll();
        setOfHouse();
        setIsRefused();
        friends();
        look();
    }

    private void newObject() {
        doc.says("The constants: `NONE = -1`: None.");
        due.is("NONE", LampRound.NONE, -1);
        doc.says("`LampRound()`: No houses.");
        LampRound x = new LampRound();
        due.is("houses of a new object", x.look(0), 0);
        due.is("of(0, 0)", x.of(0, 0), -1000000);
        x.house(0, 1, 1);
        due.is("a second object has none", new LampRound().look(0), 0);
    }

    private void state() {
        doc.says("STATE of draws (an int, 0 at first);");
        doc.says("`int state(int v)`: STATE is told: what it was.");
        LampRound x = new LampRound();
        due.is("STATE at first", x.look(4), 0);
        due.is("state(MIN)", x.state(MIN), 0);
        due.is("STATE", x.look(4), MIN);
        due.is("state(MAX)", x.state(MAX), MIN);
        due.is("STATE", x.look(4), MAX);
        due.is("state(-1)", x.state(-1), MAX);
        due.is("state(0)", x.state(0), -1);
        due.is("STATE", x.look(4), 0);
    }

    /** The STATE whose DRAW makes it this one. */
    private static int ahead(int next) {
        int inverse = 1664525;
        for (int i = 0; i < 5; i++) inverse *= 2 - 1664525 * inverse;
        return (next - 1013904223) * inverse;
    }

    /** SNOW 5 after one NIGHT with a DRAW by which STATE is next. */
    private int snowThen(int next, int flakes) {
        LampRound x = Villages.row(1, 9);
        x.set(0, 0, 5);
        x.set(1, 0, flakes);
        x.state(ahead(next));
        x.nights(1);
        due.is("STATE by a DRAW", x.look(4), next);
        return x.look(20);
    }

    private void draws() {
        doc.says("a DRAW of m: it becomes 1664525 times itself + 1013904223 (ints, which wrap), "
            + "then it is its highest 24 bits (without sign) modulo m.");
        // The 24 bits, and what they are modulo 1000: below and above the sign, the first and the last ones.
        int[][] bits = {{0, 0}, {1, 1}, {998, 998}, {999, 999}, {1000, 0}, {0x7fffff, 607}, {0x800000, 608},
            {0xffffff, 215}};
        for (int[] b : bits) {
            for (int low = 0; low < 256; low += 255) {
                int next = b[0] << 8 | low;
                if (b[1] > 0) due.is(b[0] + " is not below " + b[1], snowThen(next, b[1]), 4);
                due.is(b[0] + " is below " + (b[1] + 1), snowThen(next, b[1] + 1), 6);
            }
        }
    }

    private void numbers() {
        doc.says("HOUSES 0 .. 9 as they come:");
        LampRound x = new LampRound();
        for (int i = 0; i < 10; i++) {
            due.is("of(" + i + ", 0) ahead", x.of(i, 0), -1000000);
            due.is("house " + i, x.house(63 - i, 1, 0), i);
            due.is("of(" + i + ", 0)", x.of(i, 0), 63 - i);
        }
        due.is("the 11th", x.house(0, 1, 0), NONE);
        due.is("look(0)", x.look(0), 10);
        due.is("of(10, 0)", x.of(10, 0), -1000000);
    }

    private void places() {
        doc.says("a PLACE 8 y + x (x, y 0 .. 7; no two at one),");
        LampRound x = new LampRound();
        due.is("place -1", x.house(-1, 1, 0), NONE);
        due.is("place 64", x.house(64, 1, 0), NONE);
        due.is("place MIN", x.house(MIN, 1, 0), NONE);
        due.is("place MAX", x.house(MAX, 1, 0), NONE);
        due.is("place 0", x.house(0, 1, 0), 0);
        due.is("place 63", x.house(63, 1, 0), 1);
        due.is("at one with the first", x.house(0, 1, 0), NONE);
        due.is("at one with the latest", x.house(63, 1, 0), NONE);
        due.is("beside it", x.house(62, 1, 0), 2);
        for (int h = 0; h < 3; h++) due.is("of(" + h + ", 0)", x.of(h, 0), new int[] {0, 63, 62}[h]);
        // 7 is at the end of y 0, 8 at the beginning of y 1: eight apart.
        LampRound y = new LampRound();
        y.house(7, 1, 0);
        y.house(8, 1, 0);
        y.house(15, 1, 0);
        due.is("7 sees 15, not 8", y.of(0, 13), 4);
    }

    private void people() {
        doc.says("PEOPLE 1 .. 20,");
        LampRound x = new LampRound();
        due.is("people 0", x.house(5, 0, 0), NONE);
        due.is("people 21", x.house(5, 21, 0), NONE);
        due.is("people MIN", x.house(5, MIN, 0), NONE);
        due.is("people MAX", x.house(5, MAX, 0), NONE);
        due.is("people 1", x.house(5, 1, 0), 0);
        due.is("people 20", x.house(6, 20, 0), 1);
        due.is("of(0, 1)", x.of(0, 1), 1);
        due.is("of(1, 1)", x.of(1, 1), 20);
    }

    private void oil() {
        doc.says("OIL 0 .. 999,");
        LampRound x = new LampRound();
        due.is("oil -1", x.house(5, 1, -1), NONE);
        due.is("oil 1000", x.house(5, 1, 1000), NONE);
        due.is("oil MIN", x.house(5, 1, MIN), NONE);
        due.is("oil MAX", x.house(5, 1, MAX), NONE);
        due.is("oil 0", x.house(5, 1, 0), 0);
        due.is("oil 999", x.house(6, 1, 999), 1);
        due.is("of(0, 2)", x.of(0, 2), 0);
        due.is("of(1, 2)", x.of(1, 2), 999);
    }

    private void houseIsRefused() {
        doc.says("`int house(int place, int people, int oil)`: A HOUSE: the number; NONE if one can't be, or there are ten.");
        test.refused("house(_, 1, 0)", (x, n) -> x.house(n, 1, 0), NONE, -1, 64, 0, 2, 20);
        test.refused("house(63, _, 0)", (x, n) -> x.house(63, n, 0), NONE, 0, 21);
        test.refused("house(63, 1, _)", (x, n) -> x.house(63, 1, n), NONE, -1, 1000);
        due.is("a fourth one", Villages.busy().house(63, 1, 0), 3);
        LampRound x = Villages.row(9, 1);
        due.is("the 10th", x.house(9, 1, 1), 9);
        for (int place = 10; place < 64; place += 53) due.is("the 11th", x.house(place, 1, 1), NONE);
        due.is("look(0)", x.look(0), 10);
        // Gone back to fewer there is room again, and a HOUSE has nothing of the one that was there.
        LampRound y = Villages.row(9, 1);
        y.image(true);
        due.is("the 10th", y.house(9, 1, 1), 9);
        y.set(9, 9, 5);
        y.friends(9, 0, true);
        y.image(false);
        due.is("of(9, 0)", y.of(9, 0), -1000000);
        due.is("the 10th anew", y.house(40, 3, 7), 9);
        int[] want = {40, 3, 7, 0, 0, NONE, 0, 0};
        for (int what = 0; what < 8; what++) due.is("of(9, " + what + ")", y.of(9, what), want[what]);
        due.is("no friends", y.of(9, 10), 0);
        due.is("the 11th", y.house(50, 1, 1), NONE);
    }

    private void firstValues() {
        doc.says("OWED, HAD, BID, SAYS 0 at first.");
        doc.says("LAST: the NIGHT in which it had the LAMP lit (none),");
        LampRound x = Villages.row(10, 1);
        for (int h = 0; h < 10; h++) {
            for (int what : new int[] {3, 4, 6, 7}) due.is("of(" + h + ", " + what + ") at first", x.of(h, what), 0);
            due.is("LAST at first", x.of(h, 5), NONE);
        }
        x.nights(1);
        due.is("LAST of NIGHT 0", x.of(0, 5), 0);
        due.is("LAST of another one", x.of(1, 5), NONE);
        x.nights(1);
        due.is("LAST after a dark one", x.of(0, 5), 0);
        // A HOUSE that comes later has waited for nothing either.
        LampRound y = Villages.row(1, 9);
        y.nights(5);
        y.house(9, 1, 9);
        for (int what : new int[] {3, 4, 6, 7}) due.is("of(1, " + what + ") at first", y.of(1, what), 0);
        due.is("LAST at first", y.of(1, 5), NONE);
        doc.says("FRIENDS: pairs of HOUSES that may share a room (none at first).");
        doc.says("PATHS, NEEDS: none at first.");
        LampRound z = Villages.row(2, 9);
        due.is("FRIENDS", z.of(0, 10) + z.of(1, 10), 0);
        due.is("ROOMS", z.rooms(0), 0);
        due.is("PATHS", z.look(6), 0);
        due.is("FAR", z.far(0, 1), NONE);
        due.is("NEEDS", z.look(5), 0);
        due.is("need(0, 0)", z.need(0, 0), -2);
    }

    private void lamp() {
        doc.says("THE LAMP is at a HOUSE (the first that comes).");
        LampRound x = new LampRound();
        due.is("nowhere", x.look(1), NONE);
        x.house(64, 1, 1);
        due.is("nowhere still", x.look(1), NONE);
        x.house(30, 1, 1);
        due.is("at the first", x.look(1), 0);
        x.house(31, 1, 1);
        due.is("not at the second", x.look(1), 0);
        x.set(5, 0, 1);
        x.house(32, 1, 1);
        due.is("where it was put", x.look(1), 1);
        // Gone back to no HOUSE at all it is nowhere, and then at the first again.
        LampRound y = new LampRound();
        y.image(true);
        y.house(3, 1, 1);
        y.house(4, 1, 1);
        y.set(5, 0, 1);
        y.image(false);
        due.is("nowhere again", y.look(1), NONE);
        due.is("no nights", y.nights(1), NONE);
        due.no("set(5, 0, 0)", y.set(5, 0, 0));
        y.house(9, 1, 1);
        due.is("at the first again", y.look(1), 0);
    }

    /** What 0 .. 4: least, most, and where it is looked at. */
    private void setForAll() {
        doc.says("SNOW 0 .. 9, FLAKES 0 .. 1000, MARGIN 0 .. 99 (0 each at first), DUSK 1 .. 99 (20 at first), "
            + "DUE 1 .. 99 (30 at first).");
        int[] least = {0, 0, 0, 1, 1}, most = {9, 1000, 99, 99, 99}, first = {0, 0, 0, 20, 30};
        LampRound x = new LampRound();
        for (int what = 0; what < 5; what++) {
            due.is("look(" + (20 + what) + ") at first", x.look(20 + what), first[what]);
            for (int v : new int[] {most[what], least[what]}) {
                for (int who : new int[] {0, 1, -1, 10, MIN, MAX}) {
                    x.set(what, 0, least[what] + 1);
                    due.yes("set(" + what + ", " + who + ", " + v + ")", x.set(what, who, v));
                    due.is("look(" + (20 + what) + ")", x.look(20 + what), v);
                }
            }
            for (int v : new int[] {least[what] - 1, most[what] + 1, MIN, MAX}) {
                due.no("set(" + what + ", 0, " + v + ")", x.set(what, 0, v));
                due.is("look(" + (20 + what) + ") stays", x.look(20 + what), least[what]);
            }
        }
    }

    /** What 6 .. 10 of a HOUSE. */
    private void setOfHouse() {
        doc.says("OWED 0 .. 99,");
        doc.says("BID 0 .. 99,");
        doc.says("SAYS 0 .. 9999 (how many nights it says it had);");
        int[] least = {1, 0, 0, 0, 0}, most = {20, 999, 99, 99, 9999}, asked = {1, 2, 3, 6, 7};
        LampRound x = Villages.row(3, 5);
        for (int i = 0; i < 5; i++) {
            int what = 6 + i;
            int others = x.of(0, asked[i]);
            for (int v : new int[] {most[i], least[i]}) {
                due.yes("set(" + what + ", 1, " + v + ")", x.set(what, 1, v));
                due.is("of(1, " + asked[i] + ")", x.of(1, asked[i]), v);
            }
            for (int v : new int[] {least[i] - 1, most[i] + 1, MIN, MAX}) {
                due.no("set(" + what + ", 1, " + v + ")", x.set(what, 1, v));
                due.is("of(1, " + asked[i] + ") stays", x.of(1, asked[i]), least[i]);
            }
            due.yes("set(" + what + ", 2, ..), the last HOUSE", x.set(what, 2, most[i]));
            for (int who : new int[] {-1, 3, 9, 10, MIN, MAX})
                due.no("set(" + what + ", " + who + ", ..)", x.set(what, who, most[i]));
            due.is("of(0, " + asked[i] + ") of another one", x.of(0, asked[i]), others);
        }
    }

    private void setIsRefused() {
        doc.says("`boolean set(int what, int who, int v)`: What 0 SNOW, 1 FLAKES, 2 MARGIN, 3 DUSK, 4 DUE, 5 THE LAMP's HOUSE "
            + "(who not asked; 5: that there is), 6 PEOPLE, 7 OIL, 8 OWED, 9 BID, 10 SAYS of HOUSE who: true; false if "
            + "one can't be, or another what.");
        test.refused("set(_, 0, 1)", (x, n) -> x.set(n, 0, 1) ? 1 : 0, 0, -1, 11, MIN, MAX);
        int[] most = {9, 1000, 99, 99, 99, 2, 20, 999, 99, 99, 9999};
        for (int what = 0; what < 11; what++) {
            int w = what;
            int least = what == 3 || what == 4 || what == 6 ? 1 : 0;
            test.refused("set(" + w + ", 0, _)", (x, n) -> x.set(w, 0, n) ? 1 : 0, 0, least - 1, most[w] + 1);
            if (what > 5) test.refused("set(" + w + ", _, 1)", (x, n) -> x.set(w, n, 1) ? 1 : 0, 0, -1, 3);
        }
        LampRound x = Villages.row(2, 5);
        for (int v : new int[] {-1, 2, MIN, MAX}) due.no("set(5, 0, " + v + ")", x.set(5, 0, v));
        for (int who : new int[] {-1, 2, MIN, MAX}) {
            due.yes("set(5, " + who + ", 1)", x.set(5, who, 1));
            due.is("the lamp", x.look(1), 1);
            due.yes("set(5, " + who + ", 0)", x.set(5, who, 0));
            due.is("the lamp", x.look(1), 0);
        }
        LampRound y = Villages.row(10, 5);
        due.yes("set(5, 0, 9)", y.set(5, 0, 9));
        due.is("the lamp", y.look(1), 9);
        due.no("set(5, 0, 10)", y.set(5, 0, 10));
        due.is("the lamp", y.look(1), 9);
    }

    private void friends() {
        doc.says("`boolean friends(int a, int b, boolean are)`: Two HOUSES are FRIENDS, or not: true; "
            + "false if one can't be (alike).");
        test.refused("friends(_, 0, true)", (x, n) -> x.friends(n, 0, true) ? 1 : 0, 0, -1, 3, 0, MIN, MAX);
        test.refused("friends(2, _, true)", (x, n) -> x.friends(2, n, true) ? 1 : 0, 0, -1, 3, 2, MIN, MAX);
        test.refused("friends(_, 1, false)", (x, n) -> x.friends(n, 1, false) ? 1 : 0, 0, -1, 3, 1);
        LampRound x = Villages.row(10, 0);
        due.yes("friends(0, 9, true)", x.friends(0, 9, true));
        due.is("of(0, 10)", x.of(0, 10), 512);
        due.is("of(9, 10)", x.of(9, 10), 1);
        due.yes("once more", x.friends(9, 0, true));
        due.is("of(0, 10)", x.of(0, 10), 512);
        due.yes("not", x.friends(9, 0, false));
        due.is("of(0, 10)", x.of(0, 10), 0);
        due.yes("not, once more", x.friends(0, 9, false));
        due.is("of(9, 10)", x.of(9, 10), 0);
        for (int h = 1; h < 10; h++) x.friends(0, h, true);
        due.is("with all others", x.of(0, 10), 1022);
        due.no("the 10th is none", x.friends(0, 10, true));
    }

    private void look() {
        doc.says("`int look(int what)`: What 0 HOUSES, 1 THE LAMP's HOUSE (NONE), 2 NIGHT, 3 lines of THE BOOK, 4 STATE, "
            + "5 NEEDS, 6 PATHS, 7 NIGHTS of A ROUND that are left, 8, 9 lines of both LAWS, 10 CLUES, 11 what can be "
            + "undone, 20 SNOW, 21 FLAKES, 22 MARGIN, 23 DUSK, 24 DUE. NONE - 999 for another what. (STATE as it is.)");
        LampRound x = new LampRound();
        int[] first = {0, NONE, 0, 0, 0, 0, 0, 0, 0, 0, 0, 0};
        for (int what = 0; what < 12; what++) due.is("look(" + what + ") at first", x.look(what), first[what]);
        for (int what : new int[] {MIN, -1000, -2, -1, 12, 13, 14, 15, 16, 17, 18, 19, 25, 26, 30, 100, MAX})
            due.is("look(" + what + ")", x.look(what), -1000);
        // -1000 is a STATE, too.
        x.state(-1000);
        due.is("STATE as it is", x.look(4), -1000);
        LampRound y = Villages.busy();
        int[][] busy = {{0, 3}, {2, 5}, {3, 5}, {5, 3}, {6, 3}, {7, 3}, {8, 2}, {9, 2}, {10, 2}, {11, 5}, {21, 400},
            {22, 1}, {23, 15}, {24, 2}};
        for (int[] b : busy) due.is("look(" + b[0] + ") of a busy village", y.look(b[0]), b[1]);
    }
}
