/** Boundaries of what a LAW tells, of FAR, REACHED and OPEN, and of the calls that answer them. */
final class LawBounds {
    private static final int NONE = BoundsTest.NONE, MIN = BoundsTest.MIN, MAX = BoundsTest.MAX;

    private final BoundsTest test;
    private final Due due;
    private final Doc doc;

    LawBounds(BoundsTest test) {
        this.test = test;
        due = test.due;
        doc = test.doc;
    }

    void check() {
        wraps();
        longest();
        nothingLeft();
        lines();
        comparisons();
        readings();
        waited();
        seasons();
        needs();
        farReading();
        burningIsHeld();
        far();
        reached();
        open();
        need();
        of();
        farIsRefused();
    }

    /** What TURNS tells of HOUSE 1 of two. */
    private int turns(String law) {
        LampRound x = Villages.row(2, 0);
        due.told(x, 0, law, law.split(";").length);
        return x.of(1, 8);
    }

    private void wraps() {
        doc.says("Ints, which wrap; / goes towards 0.");
        // 8192 * 8192 * 32 is two to the 31st: one below it is the greatest, it is the least int.
        due.is("the greatest", turns("turn 8192*8192*31+8192*8191+8191;"), MAX);
        due.is("one more", turns("turn 8192*8192*31+8192*8191+8191+1;"), MIN);
        due.is("the least", turns("turn 8192*8192*32;"), MIN);
        due.is("one less", turns("turn 8192*8192*32-1;"), MAX);
        due.is("twice the least", turns("turn 8192*8192*32*2;"), 0);
        due.is("below 0", turns("turn 0-1;"), -1);
        due.is("far below", turns("turn 0-9999-9999;"), -19998);
        // 9999 * 9999 * 22 wraps to -2095407274.
        due.is("wraps below 0", turns("turn 9999*9999*22;"), -2095407274);
        due.is("a part of that, towards 0", turns("turn 9999*9999*22/10;"), -209540727);
        due.is("a part of the least", turns("turn 8192*8192*32/9999;"), -214769);
        due.is("the least by 1", turns("turn 8192*8192*32/1;"), MIN);
        due.is("99 by 100", turns("turn 99/100;"), 0);
        due.is("100 by 100", turns("turn 100/100;"), 1);
        due.is("199 by 100", turns("turn 199/100;"), 1);
        due.is("a part taken ahead of the difference", turns("turn 0-7/2;"), -3);
        due.is("parts and products in turn", turns("turn 7/2*2;"), 6);
        due.is("products and parts in turn", turns("turn 7*2/4*3/2;"), 4);
        due.is("differences in turn", turns("turn 9-3-2-1;"), 3);
        due.is("wraps in a condition", turns("turn 5 when 8192*8192*32<0;turn 6;"), 5);
        due.is("wraps in a condition", turns("turn 5 when 8192*8192*32-1>0;turn 6;"), 5);
    }

    /** A LAW of 400 bytes, more than once. */
    private void longest() {
        LampRound x = Villages.row(1, 0);
        for (int i = 1; i <= 4; i++) {
            due.told(x, 0, "turn" + i + "+1".repeat(197) + ";", 1);
            due.is("a long sum", x.of(0, 8), i + 197);
        }
        x = Villages.row(1, 0);
        for (int i = 1; i <= 4; i++) {
            String b = "1=2or".repeat(76);
            due.told(x, 0, "turn " + i + "when" + b + "1=1;", 1);
            due.is("a long condition", x.of(0, 8), i);
        }
    }

    /** What a FAULT has left open is not open in the next text. */
    private void nothingLeft() {
        LampRound x = Villages.row(1, 0);
        String[] broken = {"turn 1 when not ?", "turn 1 when (?", "turn 1 when 1=2 and ?", "turn 1 when (1=2 or not (1=1 and ?"};
        for (String text : broken) {
            due.fault(x, 0, text, 1, text.length() - 1);
            due.told(x, 0, "turn 5 when 1=1;turn 6;", 2);
            due.is("5 after " + text, x.of(0, 8), 5);
            due.told(x, 0, "turn 5 when (1=1 or 1=2) and not (1=2 and 1=1) and 1=2;turn 6;", 2);
            due.is("6 after " + text, x.of(0, 8), 6);
            due.told(x, 0, "turn 5 when 1=1 or 1=1 and 1=2;turn 6;", 2);
            due.is("and ahead of or", x.of(0, 8), 5);
            due.told(x, 0, "turn 5 when 1=2 and 1=1 or 1=1;turn 6;", 2);
            due.is("and ahead of or", x.of(0, 8), 5);
            due.told(x, 0, "turn 5 when not 1=2 and not (not 1=1 or 1=2) and 1=1;turn 6;", 2);
            due.is("nots one by one", x.of(0, 8), 5);
        }
        x = Villages.row(1, 0);
        for (int i = 0; i < 9; i++) due.fault(x, 0, "turn 1 when ((((((((?", 1, 20);
        due.told(x, 0, "turn 5 when 1=2 and (1=1) and 1=1 or (not 1=1);turn 6;", 2);
        due.is("6 after many that were open", x.of(0, 8), 6);
        due.told(x, 0, "turn 5 when (not (1=2)) and not (not (not 1=2));turn 6;", 2);
        due.is("5 after many that were open", x.of(0, 8), 5);
        x = Villages.row(1, 0);
        due.fault(x, 4, "again 2(go 0;again 3(", 1, 21);
        due.fault(x, 4, "go 0;)", 1, 5);
        due.told(x, 4, "go 0;again 2(go 0;)", 3);
    }

    private void lines() {
        doc.says("What a LAW tells of a HOUSE: E of the first line whose B is so, or that has none; without one: of TURNS "
            + "waited, of BURNING 1:");
        due.is("the first of two", turns("turn 5 when 1=1;turn 6 when 1=1;"), 5);
        due.is("the second", turns("turn 5 when 1=2;turn 6 when 1=1;turn 7;"), 6);
        due.is("the last", turns("turn 5 when 1=2;turn 6 when 1=2;turn 7;"), 7);
        due.is("one without ahead of one that is so", turns("turn 5;turn 6 when 1=1;"), 5);
        due.is("the 16th", turns("turn 5 when 1=2;".repeat(15) + "turn 6 when 1=1;"), 6);
        due.is("none of 16: waited", turns("turn 5 when 1=2;".repeat(16)), 1);
        LampRound x = Villages.row(2, 9);
        x.nights(4);
        due.is("without a line: waited", x.of(1, 8), 5);
        due.is("without a line: 1", x.of(1, 9), 1);
        due.told(x, 0, "turn 0 when house=0;", 1);
        due.told(x, 1, "burn 0 when house=0;", 1);
        due.is("a line", x.of(0, 8), 0);
        due.is("no line: waited", x.of(1, 8), 5);
        due.is("a line", x.of(0, 9), 0);
        due.is("no line: 1", x.of(1, 9), 1);
    }

    private void comparisons() {
        String[] signs = {"<", "=", ">"};
        for (int a = 6; a <= 8; a++) {
            for (int s = 0; s < 3; s++) {
                boolean so = s == 0 ? a < 7 : s == 1 ? a == 7 : a > 7;
                String b = a + signs[s] + "7";
                due.is(b, turns("turn 5 when " + b + ";turn 6;"), so ? 5 : 6);
                due.is("not " + b, turns("turn 5 when not " + b + ";turn 6;"), so ? 6 : 5);
                due.is("(" + b + ")", turns("turn 5 when (" + b + ");turn 6;"), so ? 5 : 6);
                due.is(b + " and so", turns("turn 5 when " + b + " and 1=1;turn 6;"), so ? 5 : 6);
                due.is("so or " + b, turns("turn 5 when 1=1 or " + b + ";turn 6;"), 5);
                due.is(b + " or not so", turns("turn 5 when " + b + " or 1=2;turn 6;"), so ? 5 : 6);
                due.is("not so and " + b, turns("turn 5 when 1=2 and " + b + ";turn 6;"), 6);
            }
        }
    }

    private void readings() {
        doc.says("house: its number; owed; waited: NIGHT less LAST (without one: NIGHT and 1); snow; oil; season: NIGHT modulo "
            + "120 by 30; people; needs: worth of its OPEN NEEDS, added; far: FAR from THE LAMP (0 if it is there; 99 if not "
            + "to be reached); bid.");
        LampRound x = Villages.row(10, 0);
        due.told(x, 0, "turn house;", 1);
        due.told(x, 1, "burn house;", 1);
        for (int h = 0; h < 10; h += 9) due.is("house " + h, 100 * x.of(h, 8) + x.of(h, 9), 101 * h);
        String[] words = {"owed", "snow", "oil", "people", "bid"};
        int[] what = {8, 0, 7, 6, 9}, least = {0, 0, 0, 1, 0}, most = {99, 9, 999, 20, 99};
        for (int i = 0; i < words.length; i++) {
            LampRound y = Villages.row(3, 7);
            due.told(y, 0, "turn " + words[i] + ";", 1);
            for (int v : new int[] {most[i], least[i]}) {
                y.set(what[i], 2, v);
                due.is(words[i], y.of(2, 8), v);
            }
            if (i == 4) due.fault(y, 1, "burn bid;", 1, 5);
            else due.told(y, 1, "burn " + words[i] + "/10;", 1);
            y.set(what[i], 2, most[i]);
            due.is("burn " + words[i], y.of(2, 9), i == 4 ? 1 : most[i] / 10);
        }
    }

    private void waited() {
        LampRound x = Villages.row(2, 1);
        due.told(x, 0, "turn waited;", 1);
        due.is("at NIGHT 0 without LAST", x.of(0, 8), 1);
        x.nights(1);
        due.is("LAST 0 at NIGHT 1", x.of(0, 8), 1);
        due.is("at NIGHT 1 without LAST", x.of(1, 8), 2);
        x.nights(1);
        due.is("LAST 0 at NIGHT 2, after a dark one", x.of(0, 8), 2);
        due.is("at NIGHT 2 without LAST", x.of(1, 8), 3);
        for (int i = 0; i < 166; i++) x.nights(60);
        x.nights(37);
        due.is("NIGHT", x.look(2), 9999);
        due.is("LAST 0 at NIGHT 9999", x.of(0, 8), 9999);
        due.is("at NIGHT 9999 without LAST", x.of(1, 8), 10000);
    }

    private void seasons() {
        doc.says("Quotients go downwards.");
        int[][] seasons = {{29, 0}, {30, 1}, {59, 1}, {60, 2}, {89, 2}, {90, 3}, {119, 3}, {120, 0}, {149, 0}, {150, 1},
            {200, 2}, {239, 3}, {240, 0}};
        LampRound x = Villages.row(1, 0);
        due.told(x, 0, "turn season;", 1);
        due.told(x, 1, "burn season;", 1);
        due.is("season of NIGHT 0", x.of(0, 8), 0);
        for (int[] s : seasons) {
            x.nights(s[0] - x.look(2));
            due.is("season of NIGHT " + s[0], x.of(0, 8), s[1]);
            due.is("burning by it", x.of(0, 9), s[1]);
        }
        for (int i = 0; i < 162; i++) x.nights(60);
        x.nights(39);
        due.is("season of NIGHT 9999", x.of(0, 8), 9999 % 120 / 30);
    }

    private void needs() {
        LampRound x = Villages.row(2, 9);
        due.told(x, 0, "turn needs;", 1);
        due.is("none", x.of(1, 8), 0);
        due.told(x, 3, "need read at1from0to0worth99;".repeat(10), 10);
        due.is("ten of the most worth", x.of(1, 8), 990);
        due.is("of another HOUSE", x.of(0, 8), 0);
        x.nights(1);
        due.is("SPOILT", x.of(1, 8), 0);
        due.told(x, 3, "need read at 0 from 2 to 3 worth 5;need mend at 0 from 3 to 3 worth 6;", 2);
        due.is("ahead of both", x.of(0, 8), 0);
        x.set(7, 0, 0);
        x.nights(1);
        due.is("from the first one on", x.of(0, 8), 5);
        x.nights(1);
        due.is("in its last one, and in its only one", x.of(0, 8), 11);
        x.nights(1);
        due.is("behind both", x.of(0, 8), 0);
        due.told(x, 3, "need read at 0 from 0 to 99 worth 7;", 1);
        x.set(7, 0, 9);
        due.is("OPEN", x.of(0, 8), 7);
        x.nights(1);
        due.is("done", x.of(0, 8), 0);
    }

    private void farReading() {
        LampRound x = Villages.row(4, 0);
        due.told(x, 0, "turn far;", 1);
        due.told(x, 2, "path 0 to 1 in 1;path 1 to 2 in 98;", 2);
        int[] want = {0, 1, 99, 99};
        for (int h = 0; h < 4; h++) due.is("far of " + h, x.of(h, 8), want[h]);
        // FAR is told as it is, though it is above 99 and above DUSK.
        due.told(x, 2, "path 0 to 1 in 1;path 1 to 2 in 99;", 2);
        due.is("FAR 100", x.of(2, 8), 100);
        due.is("no PATH", x.of(3, 8), 99);
        x.set(5, 0, 2);
        due.is("from where THE LAMP is", x.of(2, 8), 0);
        due.is("from there", x.of(1, 8), 99);
        due.told(x, 2, "path 0 to 2 in 7 until 3;", 1);
        x.set(0, 0, 3);
        due.is("open", x.of(0, 8), 7);
        x.set(0, 0, 4);
        due.is("closed by SNOW", x.of(0, 8), 99);
        due.is("THE LAMP's own", x.of(2, 8), 0);
    }

    private void burningIsHeld() {
        doc.says("BURNING is held to 0 .. 99.");
        String[] laws = {"0-1", "0", "1", "98", "99", "100", "9999", "8192*8192*32", "8192*8192*32-1", "0-9999"};
        int[] want = {0, 0, 1, 98, 99, 99, 99, 0, 99, 0};
        for (int i = 0; i < laws.length; i++) {
            LampRound x = Villages.row(1, 300);
            due.told(x, 1, "burn " + laws[i] + ";", 1);
            due.is("burn " + laws[i], x.of(0, 9), want[i]);
            due.is("a night", x.nights(1), 1);
            due.is("OIL after burn " + laws[i], x.of(0, 2), 300 - want[i]);
        }
        due.is("TURNS is not held", turns("turn 0-1;"), -1);
        due.is("TURNS is not held", turns("turn 100;"), 100);
    }

    private void far() {
        doc.says("FAR of two HOUSES: the least sum of PATHS that are open;");
        LampRound x = Villages.row(4, 0);
        due.told(x, 2, "path 0 to 1 in 5;path 1 to 2 in 5;path 0 to 2 in 11;path 3 to 3 in 4;", 4);
        due.is("two of 5 ahead of 11", x.far(0, 2), 10);
        due.is("of itself, by no PATH", x.far(3, 3), 0);
        due.told(x, 2, "path 0 to 1 in 5;path 1 to 2 in 5;path 0 to 2 in 10;", 3);
        due.is("alike", x.far(0, 2), 10);
        due.told(x, 2, "path 0 to 1 in 5;path 1 to 2 in 5;path 0 to 2 in 9;", 3);
        due.is("9 ahead of two of 5", x.far(0, 2), 9);
        // Ten HOUSES in one line, told from its end: nine PATHS of the longest.
        LampRound y = Villages.row(10, 0);
        StringBuilder s = new StringBuilder();
        for (int h = 9; h > 0; h--) s.append("path " + h + " to " + (h - 1) + " in 99;");
        due.told(y, 2, s.toString(), 9);
        due.is("from end to end", y.far(0, 9), 891);
        due.is("and back", y.far(9, 0), 891);
    }

    private void reached() {
        doc.says("one is REACHED from another one, if FAR is DUSK at most (itself: 0).");
        LampRound x = Villages.row(3, 9);
        due.told(x, 2, "path 0 to 1 in 20;path 0 to 2 in 21;", 2);
        due.is("DUSK 20", x.of(0, 11), 3);
        due.is("from the other side", x.of(1, 11), 3);
        due.is("21 from the other side", x.of(2, 11), 4);
        x.set(3, 0, 21);
        due.is("DUSK 21", x.of(0, 11), 7);
        x.set(3, 0, 19);
        due.is("DUSK 19: itself alone", x.of(0, 11), 1);
        due.told(x, 2, "path 0 to 1 in 1;path 1 to 2 in 1;", 2);
        x.set(3, 0, 1);
        due.is("DUSK 1: not by two PATHS", x.of(0, 11), 3);
        due.told(x, 2, "path 0 to 1 in 99;path 1 to 2 in 1;", 2);
        x.set(3, 0, 99);
        due.is("DUSK 99", x.of(0, 11), 3);
        due.is("itself without PATHS", Villages.row(1, 0).of(0, 11), 1);
    }

    private void open() {
        doc.says("A NEED is OPEN, if it is neither done nor SPOILT and NIGHT is from its first to its last one.");
        doc.says("Of a NEED: done in a NIGHT, or none; SPOILT or not.");
        LampRound x = Villages.row(2, 0);
        due.told(x, 3, "need read at 1 from 2 to 4 worth 1;need read at 1 from 3 to 3 worth 1;", 2);
        int[][] want = {{0, 0, 0, 0}, {0, 0, 0, 0}, {1, 0, 0, 0}, {1, 0, 1, 0}, {1, 0, 0, 1}, {0, 1, 0, 1}};
        for (int night = 0; night < 6; night++) {
            int[] w = want[night];
            due.is("first OPEN in NIGHT " + night, x.need(0, 7), w[0]);
            due.is("first SPOILT in NIGHT " + night, x.need(0, 6), w[1]);
            due.is("second OPEN in NIGHT " + night, x.need(1, 7), w[2]);
            due.is("second SPOILT in NIGHT " + night, x.need(1, 6), w[3]);
            x.nights(1);
        }
        // Done in its first NIGHT it is OPEN no more, nor SPOILT when its last one goes by.
        LampRound y = Villages.row(1, 9);
        due.told(y, 3, "need read at 0 from 1 to 2 worth 1;", 1);
        y.nights(1);
        due.is("done ahead of its first", y.need(0, 5), NONE);
        y.nights(1);
        due.is("done", y.need(0, 5), 1);
        due.is("OPEN", y.need(0, 7), 0);
        y.nights(1);
        due.is("SPOILT", y.need(0, 6), 0);
        due.is("done", y.need(0, 5), 1);
    }

    private void need() {
        doc.says("`int need(int i, int what)`: Of a NEED what 0 kind (0 .. 3), 1 HOUSE, 2, 3 from, to, 4 worth, 5 the NIGHT in "
            + "which it was done (NONE), 6 1 if it is SPOILT, 7 1 if it is OPEN, else 0. NONE - 1 if there is none such, or "
            + "another what.");
        LampRound x = Villages.row(2, 0);
        due.is("need(0, 0) without NEEDS", x.need(0, 0), -2);
        String[] kinds = {"birth", "read", "mend", "bride"};
        for (int kind = 0; kind < 4; kind++) {
            due.told(x, 3, "need " + kinds[kind] + " at 1 from 0 to 0 worth 1;", 1);
            due.is(kinds[kind], x.need(0, 0), kind);
        }
        for (int what : new int[] {-1, 8, MIN, MAX}) due.is("need(0, " + what + ")", x.need(0, what), -2);
        for (int i : new int[] {-1, 1, 10, MIN, MAX}) due.is("need(" + i + ", 0)", x.need(i, 0), -2);
        due.told(x, 3, "need read at0from0to0worth1;".repeat(10), 10);
        due.is("need(9, 4)", x.need(9, 4), 1);
        due.is("need(10, 4)", x.need(10, 4), -2);
        due.told(x, 3, "", 0);
        due.is("need(0, 4)", x.need(0, 4), -2);
    }

    private void of() {
        doc.says("`int of(int house, int what)`: Of a HOUSE what 0 PLACE, 1 PEOPLE, 2 OIL, 3 OWED, 4 HAD, 5 LAST (NONE), 6 BID, "
            + "7 SAYS, 8 what TURNS tells now, 9 what BURNING tells now, 10 FRIENDS (a set), 11 HOUSES that are REACHED from "
            + "it (a set), 12 those that it ENVIES (a set), 13 those by whose light it sees (a set). NONE - 999999 if there "
            + "is none such, or another what.");
        for (int h : new int[] {-1, 0, 9, 10, MIN, MAX})
            for (int what = -1; what < 15; what++) due.is("of(" + h + ", " + what + ")", new LampRound().of(h, what), -1000000);
        LampRound x = Villages.row(10, 5);
        int[] want = {9, 1, 5, 0, 0, NONE, 0, 0, 1, 1, 0, 512, 0, 319};
        for (int what = 0; what < 14; what++) due.is("of(9, " + what + ")", x.of(9, what), want[what]);
        for (int what : new int[] {-1, 14, MIN, MAX}) due.is("of(9, " + what + ")", x.of(9, what), -1000000);
        for (int h : new int[] {-1, 10, 32, MIN, MAX})
            for (int what = 0; what < 14; what++) due.is("of(" + h + ", " + what + ")", x.of(h, what), -1000000);
        // -1000000 may be what TURNS tells.
        due.told(x, 0, "turn 0-1000*1000;", 1);
        due.is("as it is told", x.of(0, 8), -1000000);
    }

    private void farIsRefused() {
        doc.says("`int far(int a, int b)`: FAR; NONE if not to be reached by PATHS that are open, or there is none such.");
        LampRound x = Villages.row(3, 0);
        due.told(x, 2, "path 0 to 1 in 99 until 0;", 1);
        due.is("above DUSK, too", x.far(0, 1), 99);
        due.is("no PATH", x.far(0, 2), NONE);
        for (int h : new int[] {-1, 3, 10, MIN, MAX}) {
            due.is("far(" + h + ", 0)", x.far(h, 0), NONE);
            due.is("far(0, " + h + ")", x.far(0, h), NONE);
            due.is("far(" + h + ", " + h + ")", x.far(h, h), NONE);
        }
        x.set(0, 0, 1);
        due.is("closed", x.far(0, 1), NONE);
        due.is("of itself", x.far(0, 0), 0);
        due.is("without a HOUSE", new LampRound().far(0, 0), NONE);
        test.changesNothing("questions", y -> {
            y.far(0, 2);
            y.of(2, 11);
            y.need(0, 7);
        });
    }
}
