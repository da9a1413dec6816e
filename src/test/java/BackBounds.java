import java.util.List;
import java.util.function.Consumer;

/** Boundaries of UNDO and THE IMAGE, and of how long an object is used. */
final class BackBounds {
    private static final int NONE = BoundsTest.NONE;

    private final BoundsTest test;
    private final Due due;
    private final Doc doc;

    BackBounds(BoundsTest test) {
        this.test = test;
        due = test.due;
        doc = test.doc;
    }

    void check() {
        undo();
        sixAreKept();
        goesBack();
        forgets();
        doesNotForget();
        undoIsRefused();
        image();
        imageGoesOn();
        imageOfFullBook();
        imageOfNothing();
        imageIsRefused();
        lastCall();
    }

    private void undo() {
        doc.says("UNDO: the latest NIGHT not undone yet goes back (STATE, THE BOOK, too):");
        LampRound x = Villages.row(1, 9);
        x.set(1, 0, 1000);
        x.nights(3);
        int state = x.look(4);
        for (int left = 2; left >= 0; left--) {
            due.yes("undo", x.undo());
            due.is("NIGHT", x.look(2), left);
            due.is("lines", x.look(3), left);
            due.is("book(" + left + ", 0)", x.book(left, 0), NONE);
            due.is("SNOW", x.look(20), left);
            due.is("OIL", x.of(0, 2), 9 - left);
            due.is("can be undone", x.look(11), left);
        }
        due.is("STATE", x.look(4), 0);
        due.no("no more", x.undo());
        x.nights(3);
        due.is("STATE as it was", x.look(4), state);
    }

    private void sixAreKept() {
        doc.says("6 are kept;");
        for (int nights = 5; nights <= 8; nights++) {
            LampRound x = Villages.row(1, 99), y = Villages.row(1, 99);
            x.nights(nights);
            for (int i = 0; i < nights; i++) y.nights(1);
            int kept = Math.min(6, nights);
            for (LampRound z : new LampRound[] {x, y}) {
                due.is("kept of " + nights, z.look(11), kept);
                for (int i = 1; i <= kept; i++) {
                    due.yes("undo " + i, z.undo());
                    due.is("NIGHT", z.look(2), nights - i);
                    due.is("left", z.look(11), kept - i);
                }
                due.no("one more", z.undo());
                due.is("NIGHT", z.look(2), nights - kept);
            }
        }
        // Room is made by what is undone: four back and five on leave six.
        LampRound x = Villages.row(1, 99);
        x.nights(6);
        for (int i = 0; i < 4; i++) x.undo();
        due.is("two left", x.look(11), 2);
        x.nights(4);
        due.is("six", x.look(11), 6);
        x.nights(1);
        due.is("six still", x.look(11), 6);
        for (int i = 0; i < 6; i++) due.yes("undo", x.undo());
        due.no("the 7th", x.undo());
        due.is("NIGHT", x.look(2), 1);
        x.nights(60);
        due.is("six of 60", x.look(11), 6);
    }

    /** All that a NIGHT changes. */
    private void goesBack() {
        LampRound x = Villages.street(2, 5);
        due.told(x, 3, "need read at 1 from 0 to 9 worth 1;need read at 0 from 0 to 1 worth 1;", 2);
        due.told(x, 4, "stay 1;go 1;", 2);
        due.told(x, 1, "burn 5 when house=0;burn 2;", 2);
        x.set(4, 0, 2);
        x.set(7, 0, 4);
        x.set(8, 1, 5);
        x.nights(1);
        x.image(true);
        int[] looks = {1, 2, 3, 7};
        int[] was = new int[looks.length];
        for (int i = 0; i < looks.length; i++) was[i] = x.look(looks[i]);
        int[][] of = new int[2][6];
        for (int h = 0; h < 2; h++) for (int what = 2; what < 6; what++) of[h][what] = x.of(h, what);
        x.nights(1);
        due.is("done", x.need(0, 5), 1);
        due.is("SPOILT", x.need(1, 6), 1);
        due.is("OWED of 0", x.of(0, 3), 1);
        due.is("OWED of 1", x.of(1, 3), 4);
        due.is("PLAN has nothing left", x.plan(3, 0), 0);
        due.yes("undo", x.undo());
        due.is("PLAN has both again", x.plan(3, 0), 2);
        x.nights(1);
        due.is("PLAN has nothing left", x.plan(3, 0), 0);
        due.yes("undo", x.undo());
        due.is("not done", x.need(0, 5), NONE);
        due.is("not SPOILT", x.need(1, 6), 0);
        due.is("OPEN", x.need(0, 7) + x.need(1, 7), 2);
        for (int i = 0; i < looks.length; i++) due.is("look(" + looks[i] + ")", x.look(looks[i]), was[i]);
        for (int h = 0; h < 2; h++)
            for (int what = 2; what < 6; what++) due.is("of(" + h + ", " + what + ")", x.of(h, what), of[h][what]);
    }

    private void told(String call, boolean forgets, Consumer<LampRound> made) {
        LampRound x = Villages.busy();
        due.is("can be undone ahead of " + call, x.look(11), 5);
        made.accept(x);
        due.is("can be undone after " + call, x.look(11), forgets ? 0 : 5);
        due.is("undo() after " + call, x.undo() ? 1 : 0, forgets ? 0 : 1);
    }

    private void forgets() {
        doc.says("whatever else is told but LAWS, CLUES (the taking of THE IMAGE does not) forgets them.");
        told("state", true, x -> x.state(5));
        told("state as it is", true, x -> x.state(x.look(4)));
        told("house", true, x -> x.house(63, 1, 1));
        told("friends", true, x -> x.friends(0, 2, true));
        told("friends, not", true, x -> x.friends(0, 2, false));
        int[] values = {3, 3, 3, 3, 3, 1, 3, 3, 3, 3, 3};
        for (int what = 0; what < 11; what++) {
            int w = what;
            told("set " + w, true, x -> x.set(w, 1, values[w]));
        }
        String[] texts = {"", "", "path 0 to 1 in 1;", "need read at 0 from 0 to 0 worth 1;", "go 0;"};
        for (int k = 2; k < 5; k++) {
            int which = k;
            told("text " + k, true, x -> {
                x.end(0);
                due.told(x, which, texts[which], 1);
            });
            told("an empty text " + k, true, x -> {
                x.end(0);
                due.told(x, which, "", 0);
            });
        }
        told("the going back to THE IMAGE", true, x -> x.image(false));
    }

    private void doesNotForget() {
        for (int k = 0; k < 2; k++) {
            int which = k;
            told("text " + k, false, x -> {
                x.end(0);
                due.told(x, which, which == 0 ? "turn 1;" : "burn 1;", 1);
            });
        }
        for (int k = 0; k < 5; k++) {
            int which = k;
            told("text " + k + " with a FAULT", false, x -> {
                x.end(0);
                due.fault(x, which, "?", 1, 0);
            });
        }
        told("text 5", false, x -> x.text(5));
        told("a CLUE", false, x -> x.clue(1, 1));
        told("no CLUES", false, x -> x.clue(NONE, 0));
        told("the taking of THE IMAGE", false, x -> x.image(true));
        told("feed and end", false, x -> {
            x.feed(0, 0, 0, 0, 0);
            x.end(3);
        });
        // The LAWS and CLUES stay as they are told when a NIGHT goes back.
        LampRound x = Villages.busy();
        x.end(0);
        due.told(x, 0, "turn 5;turn 6;turn 7;", 3);
        due.told(x, 1, "burn 5;", 1);
        x.clue(NONE, 0);
        due.yes("undo", x.undo());
        due.is("TURNS", x.look(8), 3);
        due.is("BURNING", x.look(9), 1);
        due.is("CLUES", x.look(10), 0);
        due.is("what TURNS tells", x.of(0, 8), 5);
    }

    private void undoIsRefused() {
        doc.says("`boolean undo()`: UNDO: true; false if there is nothing.");
        LampRound x = new LampRound();
        due.no("a new object", x.undo());
        x.house(0, 1, 9);
        due.no("no NIGHT", x.undo());
        x.nights(1);
        due.yes("a NIGHT", x.undo());
        due.no("once more", x.undo());
        due.is("NIGHT", x.look(2), 0);
        due.is("THE LAMP", x.look(1), 0);
        LampRound y = Villages.busy(), z = Villages.busy();
        for (LampRound w : new LampRound[] {y, z}) w.state(3);
        due.no("nothing", z.undo());
        due.yes("changes nothing", Villages.answers(y).equals(Villages.answers(z)));
    }

    private void image() {
        doc.says("THE IMAGE: all that is and was told but the TAPE, fault() and what can be undone (nothing then), as it was when it was "
            + "taken; gone back to it may be more than once.");
        LampRound x = Villages.busy(), y = Villages.busy();
        x.image(true);
        y.image(true);
        // What is told since then in y is gone, but the TAPE and fault().
        for (int again = 0; again < 2; again++) {
            y.end(0);
            for (int k = 0; k < 5; k++) due.told(y, k, "", 0);
            y.nights(2);
            y.house(40, 9, 9);
            for (int what = 0; what < 5; what++) y.set(what, 0, 7);
            for (int what = 6; what < 11; what++) y.set(what, 1, 11);
            y.friends(0, 2, true);
            y.friends(0, 1, false);
            y.clue(1, 1);
            y.state(9);
            due.fault(y, 4, "stay 0;", 2, 5);
            Due.put(y, "turn 7;turn 8;");
            due.yes("gone back", y.image(false));
            due.is("nothing can be undone", y.look(11), 0);
            due.no("undo", y.undo());
            due.is("fault(0) stays", y.fault(0), 2);
            due.is("fault(1) stays", y.fault(1), 5);
        }
        due.yes("gone back", x.image(false));
        x.end(0);
        Due.tell(x, 4, "stay 0;");
        Due.put(x, "turn 7;turn 8;");
        List<String> want = Villages.answers(x), got = Villages.answers(y);
        for (int i = 0; i < want.size(); i++) due.is(got.get(i) + ", due is " + want.get(i), got.get(i).equals(want.get(i)) ? 1 : 0, 1);
    }

    /** Taken anew it is another one, and what goes on from it does not change it. */
    private void imageGoesOn() {
        LampRound x = Villages.street(2, 50);
        x.nights(1);
        x.image(true);
        x.nights(2);
        x.image(true);
        x.nights(3);
        due.yes("gone back", x.image(false));
        due.is("to the later one", x.look(2), 3);
        x.nights(5);
        due.is("book(3, 0)", x.book(3, 0), 3);
        due.yes("gone back", x.image(false));
        due.is("NIGHT", x.look(2), 3);
        due.is("book(3, 0)", x.book(3, 0), NONE);
        due.is("OIL", x.of(0, 2) + x.of(1, 2), 97);
        due.is("NIGHTS go on", x.nights(1), 1);
        due.is("can be undone", x.look(11), 1);
        due.yes("undo", x.undo());
        due.no("not beyond THE IMAGE", x.undo());
    }

    /** THE BOOK to its last line. */
    private void imageOfFullBook() {
        LampRound x = Villages.street(2, 999);
        for (int i = 0; i < 3; i++) x.nights(50);
        x.image(true);
        due.is("the last line's HOUSE", x.book(149, 1), 1);
        for (int i = 0; i < 6; i++) due.yes("undo", x.undo());
        x.set(0, 0, 7);
        x.set(5, 0, 0);
        due.told(x, 4, "stay 60;", 60);
        x.nights(60);
        due.is("other lines", x.book(149, 1), 0);
        due.is("other lines", x.book(144, 4), 7);
        due.yes("gone back", x.image(false));
        for (int line = 140; line < 150; line++) {
            due.is("NIGHT of line " + line, x.book(line, 0), line);
            due.is("HOUSE of line " + line, x.book(line, 1), line % 2);
            due.is("SNOW of line " + line, x.book(line, 4), 0);
        }
        due.is("lines", x.look(3), 150);
    }

    private void imageOfNothing() {
        LampRound x = new LampRound();
        due.no("none is there", x.image(false));
        due.yes("taken of nothing", x.image(true));
        for (int i = 0; i < 10; i++) x.house(i, 1, 9);
        x.set(3, 0, 99);
        x.nights(7);
        due.yes("gone back", x.image(false));
        due.is("no HOUSE", x.look(0), 0);
        due.is("THE LAMP", x.look(1), NONE);
        due.is("NIGHT", x.look(2), 0);
        due.is("DUSK", x.look(23), 20);
        due.is("of(0, 0)", x.of(0, 0), -1000000);
        due.is("the first", x.house(5, 1, 1), 0);
        due.is("HAD of it", x.of(0, 4), 0);
    }

    private void imageIsRefused() {
        doc.says("`boolean image(boolean taken)`: THE IMAGE is taken (true), or gone back to (false): true; false if there is none.");
        LampRound x = Villages.street(2, 9), y = Villages.street(2, 9);
        x.nights(2);
        y.nights(2);
        due.no("none", y.image(false));
        due.is("what can be undone is not forgotten", y.look(11), 2);
        for (int what = 0; what < 12; what++) due.is("look(" + what + ")", y.look(what), x.look(what));
        due.yes("taken", y.image(true));
        due.yes("gone back", y.image(false));
        due.yes("once more", y.image(false));
    }

    /** The 512th call answers as all others do. */
    private void lastCall() {
        LampRound x = Villages.row(1, 0);
        for (int call = 2; call <= 510; call++) due.is("call " + call, x.nights(1), 0);
        due.is("call 511", x.look(2), 509);
        due.yes("call 512", x.undo());
    }
}
