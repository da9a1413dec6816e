/** Promise by promise: what is due is written out from the document, or computed beside the call. */
public final class PromisesTest {
    private static final int NONE = LampRound.NONE;
    private static final Due due = new Due("PromisesTest");

    public static void main(String[] args) {
        newObject();
        state();
        house();
        set();
        friends();
        tape();
        laws();
        lawTruths();
        lawFaults();
        lawDepth();
        fullTapes();
        pathTexts();
        needTexts();
        roundTexts();
        textsStay();
        nights();
        dark();
        brides();
        owed();
        spoilt();
        snow();
        rounds();
        lastNight();
        of();
        far();
        book();
        run();
        plan();
        planBounds();
        mend();
        rooms();
        sale();
        liars();
        sure();
        best();
        clues();
        ask();
        undo();
        undoForgets();
        image();
        look();
        due.close();
    }

    private static void newObject() {
        LampRound x = new LampRound();
        due.is("NONE", LampRound.NONE, -1);
        due.is("look(0)", x.look(0), 0);
        due.is("look(1)", x.look(1), NONE);
        due.is("fault(0)", x.fault(0), 0);
        due.is("fault(1)", x.fault(1), NONE);
        due.is("look(23)", x.look(23), 20);
        due.is("look(24)", x.look(24), 30);
    }

    private static void state() {
        LampRound x = Villages.row(1, 9);
        due.is("state(7)", x.state(7), 0);
        due.is("state(-5)", x.state(-5), 7);
        due.is("look(4)", x.look(4), -5);
        x.set(1, 0, 1);
        x.nights(1);
        due.is("a draw", x.look(4), -5 * 1664525 + 1013904223);
    }

    private static void house() {
        LampRound x = new LampRound();
        due.is("place -1", x.house(-1, 1, 0), NONE);
        due.is("place 64", x.house(64, 1, 0), NONE);
        due.is("people 0", x.house(1, 0, 0), NONE);
        due.is("people 21", x.house(1, 21, 0), NONE);
        due.is("oil -1", x.house(1, 1, -1), NONE);
        due.is("oil 1000", x.house(1, 1, 1000), NONE);
        due.is("first", x.house(63, 20, 999), 0);
        due.is("the lamp", x.look(1), 0);
        due.is("same place", x.house(63, 1, 0), NONE);
        for (int i = 1; i < 10; i++) due.is("house " + i, x.house(i, 1, 0), i);
        due.is("the 11th", x.house(40, 1, 0), NONE);
        due.is("the lamp stays", x.look(1), 0);
        due.is("look(0)", x.look(0), 10);
    }

    private static void set() {
        LampRound x = Villages.row(2, 9);
        int[] least = {0, 0, 0, 1, 1, 0, 1, 0, 0, 0, 0};
        int[] most = {9, 1000, 99, 99, 99, 1, 20, 999, 99, 99, 9999};
        int[] asked = {20, 21, 22, 23, 24, 1, 1, 2, 3, 6, 7};
        for (int what = 0; what <= 10; what++) {
            for (int v : new int[] {least[what], most[what]}) {
                String call = "set(" + what + ", 1, " + v + ")";
                due.yes(call, x.set(what, 1, v));
                due.is("after " + call, what < 6 ? x.look(asked[what]) : x.of(1, asked[what]), v);
            }
            for (int v : new int[] {least[what] - 1, most[what] + 1, Integer.MIN_VALUE, Integer.MAX_VALUE})
                due.no("set(" + what + ", 1, " + v + ")", x.set(what, 1, v));
            boolean forAll = what < 6;
            due.is("set(" + what + ", 2, ..)", x.set(what, 2, most[what]) ? 1 : 0, forAll ? 1 : 0);
            due.is("set(" + what + ", -1, ..)", x.set(what, -1, most[what]) ? 1 : 0, forAll ? 1 : 0);
        }
        due.no("set(-1, 0, 0)", x.set(-1, 0, 0));
        due.no("set(11, 0, 0)", x.set(11, 0, 0));
        due.is("only that one", x.of(0, 2), 9);
        due.no("no house at all", new LampRound().set(5, 0, 0));
    }

    private static void friends() {
        LampRound x = Villages.row(3, 0);
        due.yes("friends(0, 2)", x.friends(0, 2, true));
        due.is("of(0, 10)", x.of(0, 10), 4);
        due.is("of(2, 10)", x.of(2, 10), 1);
        due.yes("friends(2, 0, false)", x.friends(2, 0, false));
        due.is("of(0, 10)", x.of(0, 10), 0);
        due.yes("not friends, again", x.friends(2, 0, false));
        due.no("alike", x.friends(1, 1, true));
        due.no("alike, not", x.friends(1, 1, false));
        due.no("none such", x.friends(0, 3, true));
        due.no("none such", x.friends(-1, 0, true));
    }

    private static void tape() {
        LampRound x = new LampRound();
        due.no("end(1) of nothing", x.end(1));
        due.yes("end(0) of nothing", x.end(0));
        for (int i = 1; i <= 20; i++) due.is("feed " + i, x.feed(0, 0, 0, 0, 0), 20 * i);
        due.is("the 21st feed", x.feed(0, 0, 0, 0, 0), NONE);
        due.no("end(401)", x.end(401));
        due.no("end(-1)", x.end(-1));
        due.yes("end(381)", x.end(381));
        due.is("381 and 20", x.feed(0, 0, 0, 0, 0), NONE);
        due.yes("end(380)", x.end(380));
        due.is("380 and 20", x.feed(0, 0, 0, 0, 0), 400);
        due.is("a wrong sign", x.text(0), NONE);
        due.is("its place", x.fault(1), 0);
        due.is("empty then", x.feed(0, 0, 0, 0, 0), 20);
        due.is("no such text", x.text(5), NONE);
        due.is("fault 0 of none such", x.fault(0), 0);
        due.is("fault 1 of none such", x.fault(1), NONE);
        due.is("empty then, too", x.feed(0, 0, 0, 0, 0), 20);
        x.text(-1);
        // "turn 7;\n" and blanks: the highest byte comes first; the last one is cut off.
        due.is("feed", x.feed(0x7475726e, 0x20373b0a, 0x20202020, 0x20202020, 0x202020ff), 20);
        due.yes("end(19)", x.end(19));
        due.is("text(0)", x.text(0), 1);
        due.is("fault(2)", x.fault(2), NONE);
        due.is("fault(-1)", x.fault(-1), NONE);
    }

    /** What a LAW of TURNS tells of HOUSE 1 of three. */
    private static void law(String law, int want) {
        LampRound x = Villages.street(3, 40);
        x.house(60, 1, 0);
        x.set(6, 1, 5);
        x.set(7, 1, 33);
        x.set(8, 1, 4);
        x.set(9, 1, 6);
        Due.tell(x, 3, "need birth at 1 from 0 to 9 worth 10;need bride at 1 from 0 to 0 worth 3;"
            + "need read at 1 from 1 to 9 worth 50;need mend at 0 from 0 to 9 worth 70;");
        due.is("lines of " + law, Due.tell(x, 0, law) > 0 ? 1 : 0, 1);
        due.is("of(1, 8) by " + law, x.of(1, 8), want);
    }

    private static void laws() {
        law("turn house;", 1);
        law("turn owed;", 4);
        law("turn waited;", 1);
        law("turn snow;", 0);
        law("turn oil;", 33);
        law("turn season;", 0);
        law("turn people;", 5);
        law("turn needs;", 13);
        law("turn far;", 1);
        law("turn bid;", 6);
        law("turn1+2*3-4/2;", 5);
        law("turn 7/2*2;", 6);
        law("turn 0-7/2;", -3);
        law("turn 0*0-7*1/2;", -3);
        law("turn 9-3-2;", 4);
        law("turn 9999*9999*9999;", 9999 * 9999 * 9999);
        law("turn 0001\n+\n0;", 1);
        law("turn 5 when 1=2;turn 6;turn 7;", 6);
        law("turn 5 when house=1;turn 6;", 5);
        law("turn 5 when 1=2;", 1);
        law("turn 5 when 1<2 and 3>2 or 1=2;turn 6;", 5);
        law("turn 5 when 1=1 or 1=2 and 1=2;turn 6;", 5);
        law("turn 5 when (1=1 or 1=2) and 1=2;turn 6;", 6);
        law("turn 5 when not 1=2 and 1=2;turn 6;", 6);
        law("turn 5 when not (1=2 and 1=2);turn 6;", 5);
        law("turn 5 when not not (1=2 or not 1=1);turn 6;", 6);
        law("turn 5 when not not 1=1 or 1=2;turn 6;", 5);
        law("turn 5 when 1+1=2 and 2*3>5 and (7/2=3);turn 6;", 5);
        law("turn 5 when house<1;turn 6;", 6);
        law("turn 5 when house>1;turn 6;", 6);
        LampRound x = Villages.street(3, 40);
        x.house(60, 1, 5);
        Due.tell(x, 0, "turn far;");
        due.is("far of the lamp's", x.of(0, 8), 0);
        due.is("far of none", x.of(3, 8), 99);
        Due.tell(x, 2, "path 0 to 1 in 99;path 1 to 2 in 99;");
        due.is("far above", x.of(2, 8), 198);
        Due.tell(x, 0, "");
        x.nights(31);
        due.is("waited", x.of(3, 8), 32);
        due.is("waited since LAST", x.of(0, 8), x.look(2) - x.of(0, 5));
        Due.tell(x, 0, "turn season;");
        due.is("season of 31", x.of(0, 8), 1);
        x.nights(60);
        due.is("season of 91", x.of(0, 8), 3);
        x.nights(29);
        due.is("season of 120", x.of(0, 8), 0);
        due.is("burning without", x.of(1, 9), 1);
        Due.tell(x, 1, "burn house*60-60;");
        due.is("burning below 0", x.of(0, 9), 0);
        due.is("burning 0", x.of(1, 9), 0);
        due.is("burning 60", x.of(2, 9), 60);
        due.is("burning above 99", x.of(3, 9), 99);
        Due.tell(x, 1, "burn 7 when house=2;");
        due.is("burning of no line", x.of(1, 9), 1);
        due.is("burning of a line", x.of(2, 9), 7);
    }

    /** and binds closer than or, not closer than both; each by all truths of three comparisons. */
    private static void lawTruths() {
        for (int truths = 0; truths < 8; truths++) {
            LampRound x = Villages.row(1, 0);
            boolean a = (truths & 1) > 0, b = (truths & 2) > 0, c = (truths & 4) > 0;
            String p = a ? "1=1" : "1=2", q = b ? "2>1" : "2<1", r = c ? "0<1" : "0>1";
            truth(x, p + " and " + q + " or " + r, a && b || c);
            truth(x, p + " or " + q + " and " + r, a || b && c);
            truth(x, p + " or " + q + " or " + r, a || b || c);
            truth(x, p + " and " + q + " and " + r, a && b && c);
            truth(x, "(" + p + " or " + q + ") and " + r, (a || b) && c);
            truth(x, p + " and (" + q + " or " + r + ")", a && (b || c));
            truth(x, "not " + p + " and " + q + " or " + r, !a && b || c);
            truth(x, "not (" + p + " and not " + q + ") or not " + r, !(a && !b) || !c);
            truth(x, p + " or not " + q + " and not not " + r, a || !b && c);
            truth(x, "not (not (" + p + " or " + q + ") and " + r + ")", !(!(a || b) && c));
        }
        LampRound x = Villages.row(1, 0);
        String fifteen = "";
        for (int i = 0; i < 15; i++) fifteen += "turn 1 when 1=2;";
        due.told(x, 0, fifteen + "turn 2*house+77;", 16);
        due.is("the 16th line", x.of(0, 8), 77);
    }

    private static void truth(LampRound x, String condition, boolean want) {
        due.told(x, 0, "turn 5 when " + condition + ";turn 6;", 2);
        due.is(condition, x.of(0, 8), want ? 5 : 6);
    }

    private static void lawFaults() {
        LampRound x = Villages.row(2, 0);
        due.told(x, 0, "", 0);
        due.told(x, 0, " \n ", 0);
        due.told(x, 0, "turn 1;", 1);
        due.fault(x, 0, "turn", 1, 4);
        due.fault(x, 0, "turn  ", 1, 6);
        due.fault(x, 0, "turn 1 ", 1, 7);
        due.fault(x, 0, "  turnx 1;", 1, 2);
        due.fault(x, 0, "turna 1;", 1, 0);
        due.fault(x, 0, "turnz 1;", 1, 0);
        due.fault(x, 0, "turnA 1;", 1, 0);
        due.fault(x, 0, "turnZ 1;", 1, 0);
        due.fault(x, 0, "turn` 1;", 1, 4);
        due.fault(x, 0, "turn{ 1;", 1, 4);
        due.fault(x, 0, "turn@ 1;", 1, 4);
        due.fault(x, 0, "turn[ 1;", 1, 4);
        due.fault(x, 0, "turn: 1;", 1, 4);
        due.fault(x, 0, "Turn 1;", 1, 0);
        due.fault(x, 0, "burn 1;", 1, 0);
        due.fault(x, 1, "turn 1;", 1, 0);
        due.fault(x, 1, "burn bid;", 1, 5);
        due.fault(x, 1, "burn 1+far;", 1, 7);
        due.fault(x, 0, "turn -1;", 1, 5);
        due.fault(x, 0, "turn (1);", 1, 5);
        due.fault(x, 0, "turn 1+;", 1, 7);
        due.fault(x, 0, "turn 1 1;", 1, 7);
        due.fault(x, 0, "turn 1.5;", 1, 6);
        due.fault(x, 0, "turn 1\t;", 1, 6);
        due.fault(x, 0, "turn 10000;", 1, 5);
        due.fault(x, 0, "turn 1/house;", 1, 7);
        due.fault(x, 0, "turn 1/0;", 2, 7);
        due.fault(x, 0, "turn 1/ 0000;", 2, 8);
        due.fault(x, 0, "turn 1/00000;", 1, 7);
        due.told(x, 0, "turn 1/9999;", 1);
        due.fault(x, 0, "turn 1 when;", 1, 11);
        due.fault(x, 0, "turn 1 when 1;", 1, 13);
        due.fault(x, 0, "turn 1 when 1=;", 1, 14);
        due.fault(x, 0, "turn 1 when 1=1=1;", 1, 15);
        due.fault(x, 0, "turn 1 when 1=1 and;", 1, 19);
        due.fault(x, 0, "turn 1 when 1=1 not 1=1;", 1, 16);
        due.fault(x, 0, "turn 1 when (1=1;", 1, 16);
        due.fault(x, 0, "turn 1 when 1=1);", 1, 15);
        due.fault(x, 0, "turn 1 when (1)=1;", 1, 14);
        due.fault(x, 0, "turn 1 when ();", 1, 13);
        due.fault(x, 0, "turn 1 when when 1=1;", 1, 12);
        due.fault(x, 0, "turn 1;;", 1, 7);
        due.fault(x, 0, "turn 1; 7", 1, 8);
        due.fault(x, 0, "turn when 1=1;", 1, 5);
    }

    private static void lawDepth() {
        LampRound x = Villages.row(2, 0);
        String sixteen = "turn 1;".repeat(16);
        due.told(x, 0, sixteen, 16);
        due.fault(x, 0, sixteen + "turn 1;", 3, 112);
        due.fault(x, 0, sixteen + "  turn ?", 3, 114);
        due.fault(x, 0, sixteen + "burn", 1, 112);
        due.told(x, 0, "turn 1 when " + "(".repeat(8) + "1=1" + ")".repeat(8) + ";", 1);
        due.fault(x, 0, "turn 1 when " + "(".repeat(9) + "1=1", 3, 20);
        due.told(x, 0, "turn 1 when " + "not ".repeat(8) + "1=1;", 1);
        due.fault(x, 0, "turn 1 when " + "not(".repeat(4) + "not 1=1))));", 3, 28);
        due.told(x, 0, "turn 1 when " + "not(".repeat(4) + "1=1)))) and " + "(".repeat(8) + "1=1" + ")".repeat(8) + ";", 1);
        due.told(x, 0, "turn 1 when " + "not not 1=1 and ".repeat(9) + "1=1;", 1);
        due.fault(x, 0, "turn 1 when " + "(".repeat(7) + "not 1=1 and ((1=1", 3, 32);
    }

    /** 400 signs, to the last one. */
    private static void fullTapes() {
        LampRound x = Villages.row(2, 0);
        due.fault(x, 0, "turn " + "1".repeat(395), 1, 5);
        due.fault(x, 0, "turn " + "a".repeat(395), 1, 5);
        due.fault(x, 0, "turn 1" + " ".repeat(394), 1, 400);
        due.fault(x, 0, "turn 1 when 1" + "+1".repeat(193) + "=", 1, 400);
        due.fault(x, 0, "turn 1 " + " ".repeat(392) + "+", 1, 400);
        due.fault(x, 0, "turn 1 " + "\n".repeat(392) + "7", 1, 399);
        due.told(x, 0, "turn 1" + "+1".repeat(196) + " ;", 1);
        due.is("a long sum", x.of(0, 8), 197);
        due.told(x, 0, "turn1" + "*1/1+1".repeat(65) + "    ;", 1);
        due.is("a long row", x.of(0, 8), 66);
        due.told(x, 0, "turn5when" + "1=2or1=1and(".repeat(8) + "1=2or1=1and1=1" + ")".repeat(8) + ";turn6;", 2);
        due.is("deep", x.of(0, 8), 5);
        due.told(x, 0, "turn5when" + "1=2or1=1and(".repeat(8) + "1=2or1=1and1=2" + ")".repeat(8) + ";turn6;", 2);
        due.is("deep, not so", x.of(0, 8), 6);
        due.told(x, 4, "go 1;".repeat(80), 80);
        due.fault(x, 4, "go 1;".repeat(79) + "go  1", 1, 400);
        due.told(x, 4, "again1()".repeat(50), 0);
        due.told(x, 2, "path0to1in1;".repeat(33) + "    ", 33);
        due.fault(x, 2, "path0to1in1;".repeat(33) + "path", 1, 400);
    }

    private static void pathTexts() {
        LampRound x = Villages.row(3, 0);
        due.told(x, 2, "path 0 to 1 in 99 until 0;\npath 2 to 2 in 1;path 0to2in5until9;", 3);
        due.is("look(6)", x.look(6), 3);
        due.fault(x, 2, "path 3 to 1 in 1;", 2, 5);
        due.fault(x, 2, "path 0 to 3 in 1;", 2, 10);
        due.fault(x, 2, "path 0 to 1 in 0;", 2, 15);
        due.fault(x, 2, "path 0 to 1 in 100;", 2, 15);
        due.fault(x, 2, "path 0 to 1 in 1 until 10;", 2, 23);
        due.fault(x, 2, "path 0 to 1 in 1 until ;", 1, 23);
        due.fault(x, 2, "path 0 to 1 in 1 from 2;", 1, 17);
        due.fault(x, 2, "path to 1 in 1;", 1, 5);
        due.fault(x, 2, "path 0 1 in 1;", 1, 7);
        due.fault(x, 2, "path 0 to 1 until 1;", 1, 12);
        due.fault(x, 2, "path 0 to 1 in 1", 1, 16);
        due.fault(x, 2, "go 0;", 1, 0);
        StringBuilder s = new StringBuilder();
        LampRound y = Villages.row(2, 0);
        for (int i = 0; i < 13; i++) s.append("path0to1in9;");
        due.told(y, 2, s.toString(), 13);
        due.told(x, 2, "path 0 to 0 in 1;", 1);
        // The 41st can not come: 33 of the shortest fill the tape.
        due.is("33 paths", Due.tell(y, 2, "path0to1in9;".repeat(33)), 33);
        due.fault(new LampRound(), 2, "path 0 to 0 in 1;", 2, 5);
    }

    private static void needTexts() {
        LampRound x = Villages.row(3, 0);
        due.told(x, 3, "need birth at 0 from 0 to 0 worth 1;need read at 1 from 9999 to 9999 worth 99;"
            + "need mend at 2 from 3 to 4 worth 5;need bride at 0 from 1 to 2 worth 3;", 4);
        int[][] all = {{0, 0, 0, 0, 1, -1, 0, 1}, {1, 1, 9999, 9999, 99, -1, 0, 0}, {2, 2, 3, 4, 5, -1, 0, 0},
            {3, 0, 1, 2, 3, -1, 0, 0}};
        for (int i = 0; i < 4; i++)
            for (int what = 0; what < 8; what++) due.is("need(" + i + ", " + what + ")", x.need(i, what), all[i][what]);
        due.is("need(4, 0)", x.need(4, 0), -2);
        due.is("need(-1, 0)", x.need(-1, 0), -2);
        due.is("need(0, 8)", x.need(0, 8), -2);
        due.is("need(0, -1)", x.need(0, -1), -2);
        due.is("look(5)", x.look(5), 4);
        due.fault(x, 3, "need at 0 from 0 to 0 worth 1;", 1, 5);
        due.fault(x, 3, "need need at 0 from 0 to 0 worth 1;", 1, 5);
        due.fault(x, 3, "need birth at 3 from 0 to 0 worth 1;", 2, 14);
        due.fault(x, 3, "need birth at 0 from 5 to 4 worth 1;", 2, 26);
        due.fault(x, 3, "need birth at 0 from 5 to 5 worth 0;", 2, 34);
        due.fault(x, 3, "need birth at 0 from 5 to 5 worth 100;", 2, 34);
        due.fault(x, 3, "need birth at 0 from 10000 to 5 worth 1;", 1, 21);
        due.fault(x, 3, "need birth at 0 to 5 worth 1;", 1, 16);
        due.fault(x, 3, "need birth at 0 from 5 to 5 worth 1", 1, 35);
        String ten = "need read at0from0to0worth1;".repeat(10);
        due.told(x, 3, ten, 10);
        due.fault(x, 3, ten + "need", 3, 280);
        due.fault(x, 3, ten + "birth", 1, 280);
    }

    private static void roundTexts() {
        LampRound x = Villages.row(3, 0);
        due.told(x, 4, "go 0;stay 60;again 9(go 2;)", 70);
        due.is("look(7)", x.look(7), 70);
        due.told(x, 4, "again 3 ( )", 0);
        due.told(x, 4, "again 2 (again 2 (again 2 (again 2 (go 1;)go 0;)))", 24);
        due.fault(x, 4, "again 1(again 1(again 1(again 1(again 1(go 1;)))))", 3, 32);
        due.told(x, 4, "again 1(again 1(again 1(again 1()again 1())))", 0);
        due.fault(x, 4, "go 3;", 2, 3);
        due.fault(x, 4, "stay 0;", 2, 5);
        due.fault(x, 4, "stay 61;", 2, 5);
        due.fault(x, 4, "again 0()", 2, 6);
        due.fault(x, 4, "again 10()", 2, 6);
        due.fault(x, 4, "go 0", 1, 4);
        due.fault(x, 4, "again 2 go 0;", 1, 8);
        due.fault(x, 4, "again 2(go 0;", 1, 13);
        due.fault(x, 4, "go 0;)", 1, 5);
        due.fault(x, 4, "again 2(go 0;);", 1, 14);
        due.told(x, 4, "stay 60;stay 60;stay 60;stay 20;", 200);
        due.fault(x, 4, "stay 60;stay 60;stay 60;stay 21;", 4, 32);
        due.fault(x, 4, "stay 60;stay 60;stay 60;stay 21; \n", 4, 34);
        due.fault(x, 4, "stay 60;stay 60;stay 60;stay 21; go", 1, 35);
        due.fault(x, 4, "again 9(again 9(again 9(again 9(stay 60;))))", 4, 44);
        due.fault(x, 4, "again 9(again 9(again 9(again 9(stay 60;)))", 1, 43);
    }

    /** A text with a FAULT leaves what was told, and what can be undone. */
    private static void textsStay() {
        LampRound x = Villages.street(2, 9);
        Due.tell(x, 0, "turn 3;");
        Due.tell(x, 1, "burn 0;turn;");
        Due.tell(x, 4, "stay 5;");
        Due.tell(x, 3, "need read at 0 from 0 to 0 worth 1;");
        x.nights(1);
        due.is("done", x.need(0, 5), 0);
        for (int k = 0; k < 5; k++) due.fault(x, k, "?", 1, 0);
        due.is("turns", x.look(8), 1);
        due.is("burning", x.look(9), 0);
        due.is("paths", x.look(6), 1);
        due.is("needs", x.look(5), 1);
        due.is("done still", x.need(0, 5), 0);
        due.is("round", x.look(7), 4);
        due.is("undoable", x.look(11), 1);
        due.told(x, 3, "need read at 0 from 0 to 0 worth 1;", 1);
        due.is("told anew", x.need(0, 5), NONE);
        due.is("not spoilt", x.need(0, 6), 0);
        due.is("forgotten", x.look(11), 0);
    }

    private static void nights() {
        LampRound x = Villages.street(3, 50);
        due.is("nights(0)", x.nights(0), NONE);
        due.is("nights(61)", x.nights(61), NONE);
        due.is("nights(-1)", x.nights(-1), NONE);
        due.is("no house", new LampRound().nights(1), NONE);
        // Without a law: who has waited longest, of several the least; each burns 1.
        int[] where = {0, 1, 2, 0, 1, 2};
        for (int h : where) {
            due.is("nights(1)", x.nights(1), 1);
            due.is("the lamp", x.look(1), h);
            due.is("last", x.of(h, 5), x.look(2) - 1);
        }
        due.is("had", x.of(2, 4), 2);
        due.is("oil", x.of(2, 2), 48);
        due.is("nights(60)", x.nights(60), 60);
        due.is("night", x.look(2), 66);
        // Not further than DUSK: from 0 only 1 is REACHED, from 1 both others.
        LampRound y = Villages.street(3, 50);
        y.set(3, 0, 1);
        Due.tell(y, 0, "turn house;");
        y.nights(1);
        due.is("one step", y.look(1), 1);
        y.nights(1);
        due.is("two steps", y.look(1), 2);
        LampRound z = Villages.row(2, 50);
        Due.tell(z, 0, "turn house;");
        z.nights(3);
        due.is("no path", z.look(1), 0);
        Due.tell(z, 2, "path 1 to 0 in 20 until 3;");
        z.set(0, 0, 4);
        z.nights(1);
        due.is("path under snow", z.look(1), 0);
        z.set(0, 0, 3);
        z.nights(1);
        due.is("path open", z.look(1), 1);
        // Equal turns: the least.
        Due.tell(z, 0, "turn 0-5;");
        z.nights(1);
        due.is("the least of equals", z.look(1), 0);
    }

    private static void dark() {
        LampRound x = Villages.row(1, 10);
        x.set(8, 0, 5);
        Due.tell(x, 1, "burn 4;");
        due.is("two are lit", x.nights(4), 2);
        due.is("oil", x.of(0, 2), 0);
        due.is("had", x.of(0, 4), 2);
        due.is("last", x.of(0, 5), 1);
        due.is("owed", x.of(0, 3), 3);
        int[][] lines = {{0, 0, 1, 4, 0, 0}, {1, 0, 1, 4, 0, 0}, {2, 0, 0, 2, 0, 0}, {3, 0, 0, 0, 0, 0}};
        for (int i = 0; i < 4; i++)
            for (int what = 0; what < 6; what++) due.is("book(" + i + ", " + what + ")", x.book(i, what), lines[i][what]);
        Due.tell(x, 1, "burn 0;");
        due.is("nothing burns", x.nights(1), 1);
        // A need is not done in the dark.
        LampRound y = Villages.row(1, 0);
        Due.tell(y, 3, "need read at 0 from 0 to 5 worth 1;");
        y.nights(1);
        due.is("not done", y.need(0, 5), NONE);
        y.set(7, 0, 1);
        y.nights(1);
        due.is("done", y.need(0, 5), 1);
        due.is("not open then", y.need(0, 7), 0);
    }

    private static void brides() {
        LampRound x = Villages.street(2, 50);
        Due.tell(x, 3, "need bride at 0 from 0 to 9 worth 1;need bride at 1 from 3 to 3 worth 1;");
        Due.tell(x, 4, "go 0;go 1;go 0;go 0;go 1;");
        x.nights(1);
        due.is("at night 0 none was ahead", x.need(0, 5), NONE);
        x.nights(2);
        due.is("another house ahead", x.need(0, 5), NONE);
        x.nights(1);
        due.is("two together", x.need(0, 5), 3);
        due.is("book", x.book(3, 5), 1);
        LampRound y = Villages.row(1, 50);
        Due.tell(y, 3, "need bride at 0 from 1 to 1 worth 1;");
        y.nights(2);
        due.is("open in the second alone", y.need(0, 5), 1);
        LampRound z = Villages.row(1, 1);
        Due.tell(z, 3, "need bride at 0 from 0 to 9 worth 1;");
        z.nights(2);
        z.set(7, 0, 9);
        z.nights(1);
        due.is("dark ahead", z.need(0, 5), NONE);
        z.nights(1);
        due.is("lit ahead", z.need(0, 5), 3);
    }

    private static void owed() {
        LampRound x = Villages.row(2, 90);
        x.set(4, 0, 3);
        x.nights(2);
        due.is("not yet", x.of(1, 3), 0);
        x.nights(1);
        due.is("three nights without", x.of(1, 3), 1);
        due.is("the lit one", x.of(0, 3), 0);
        x.nights(3);
        due.is("six", x.of(1, 3), 2);
        x.set(8, 1, 99);
        x.nights(3);
        due.is("99 at most", x.of(1, 3), 99);
        x.set(8, 0, 2);
        x.nights(1);
        due.is("one less", x.of(0, 3), 1);
        x.nights(2);
        due.is("0 at least", x.of(0, 3), 0);
        // Since LAST: lit in NIGHT 0, dark then; 3 and 6 are multiples.
        LampRound y = Villages.row(1, 1);
        y.set(4, 0, 3);
        y.nights(3);
        due.is("since last, 2", y.of(0, 3), 0);
        y.nights(1);
        due.is("since last, 3", y.of(0, 3), 1);
        y.nights(3);
        due.is("since last, 6", y.of(0, 3), 2);
    }

    private static void spoilt() {
        LampRound x = Villages.row(2, 9);
        Due.tell(x, 3, "need read at 1 from 0 to 1 worth 1;need read at 0 from 2 to 2 worth 1;");
        x.nights(1);
        due.is("open still", x.need(0, 7), 1);
        due.is("not yet", x.need(0, 6), 0);
        x.nights(1);
        due.is("spoilt", x.need(0, 6), 1);
        due.is("not open", x.need(0, 7), 0);
        x.nights(1);
        due.is("done in its last one", x.need(1, 5), 2);
        due.is("and not spoilt", x.need(1, 6), 0);
        Due.tell(x, 3, "need read at 1 from 0 to 1 worth 1;");
        x.nights(1);
        due.is("its nights are gone", x.need(0, 6), 0);
    }

    private static void snow() {
        LampRound x = Villages.row(1, 999);
        x.nights(1);
        due.is("no flakes, no draw", x.look(4), 0);
        x.set(1, 0, 1000);
        x.nights(12);
        due.is("9 at most", x.look(20), 9);
        due.is("the book's snow", x.book(1, 4), 0);
        due.is("the book's snow", x.book(2, 4), 1);
        // 1664525 + 1013904223 is 1015568748, by 256 3967065: a draw of 1000 is 65.
        LampRound y = Villages.row(1, 999);
        y.state(1);
        y.set(0, 0, 5);
        y.set(1, 0, 65);
        y.nights(1);
        due.is("state", y.look(4), 1015568748);
        due.is("65 is not below 65", y.look(20), 4);
        y.state(1);
        y.set(1, 0, 66);
        y.nights(1);
        due.is("65 is below 66", y.look(20), 5);
        y.set(0, 0, 0);
        y.state(1);
        y.set(1, 0, 1);
        y.nights(1);
        due.is("0 at least", y.look(20), 0);
        // A state below 0: its 24 bits are without sign.
        LampRound z = Villages.row(1, 999);
        z.set(1, 0, 1000);
        z.state(1196435762);
        z.nights(1);
        int next = 1664525 * 1196435762 + 1013904223;
        due.is("wraps", z.look(4), next);
        z.set(0, 0, 3);
        z.state(1196435762);
        z.set(1, 0, (int) ((next & 0xffffffffL) >> 8) % 1000);
        z.nights(1);
        due.is("not below itself", z.look(20), 2);
    }

    private static void rounds() {
        LampRound x = Villages.street(3, 50);
        x.set(3, 0, 1);
        Due.tell(x, 0, "turn 0-house;");
        due.told(x, 4, "go 2;go 1;stay 2;again 2(go 2;go 1;)", 8);
        int[] where = {0, 1, 1, 1, 2, 1, 2, 1, 0, 0};
        for (int i = 0; i < where.length; i++) {
            x.nights(1);
            due.is("night " + i, x.look(1), where[i]);
            due.is("left", x.look(7), Math.max(0, 7 - i));
        }
        due.told(x, 4, "stay 3;", 3);
        x.nights(1);
        due.told(x, 4, "stay 9;", 9);
        due.is("told anew", x.look(7), 9);
    }

    private static void lastNight() {
        LampRound x = Villages.row(1, 999);
        for (int i = 0; i < 166; i++) due.is("nights", x.nights(60) == NONE ? 0 : 1, 1);
        due.is("night", x.look(2), 9960);
        due.is("nights(40)", x.nights(40), NONE);
        due.is("nights(39)", x.nights(39), 0);
        due.is("night", x.look(2), 9999);
        due.is("nights(1)", x.nights(1), NONE);
        due.is("had", x.of(0, 4), 999);
        due.yes("undo", x.undo());
        due.is("nights(1)", x.nights(1), 0);
        due.is("lines", x.look(3), 150);
        due.is("book(149, 0)", x.book(149, 0), 149);
        due.is("book(150, 0)", x.book(150, 0), NONE);
    }

    private static void of() {
        LampRound x = new LampRound();
        x.house(9, 4, 7);
        x.house(11, 8, 70);
        x.house(13, 2, 0);
        x.house(25, 1, 0);
        x.house(27, 1, 0);
        due.is("place", x.of(0, 0), 9);
        due.is("people", x.of(1, 1), 8);
        due.is("oil", x.of(1, 2), 70);
        for (int what = 3; what < 8; what++) due.is("of(0, " + what + ")", x.of(0, what), what == 5 ? NONE : 0);
        due.is("of(5, 0)", x.of(5, 0), -1000000);
        due.is("of(-1, 0)", x.of(-1, 0), -1000000);
        due.is("of(0, 14)", x.of(0, 14), -1000000);
        due.is("of(0, -1)", x.of(0, -1), -1000000);
        // 0 (1,1), 1 (3,1), 2 (5,1), 3 (1,3), 4 (3,3): 1 stands between 0 and 2.
        due.is("sight of 0", x.of(0, 13), 2 + 8 + 16);
        due.is("sight of 2: 4 is 4 apart, 3 is 6 apart", x.of(2, 13), 2 + 16);
        x.house(18, 1, 0);
        due.is("(2,2) stands between 0 and 4, and 1 and 3", x.of(0, 13), 2 + 8 + 32);
        due.is("sight of 1", x.of(1, 13), 1 + 4 + 16 + 32);
        // Envy: HAD b times PEOPLE a above (HAD a + MARGIN) times PEOPLE b.
        x.nights(2);
        due.is("had", x.of(0, 4), 2);
        due.is("1 envies 0: 16 above 0", x.of(1, 12), 1);
        x.set(2, 0, 3);
        due.is("16 above 12", x.of(1, 12), 1);
        x.set(2, 0, 4);
        due.is("16 not above 16", x.of(1, 12), 0);
        due.is("0 envies none", x.of(0, 12), 0);
        due.is("reached", x.of(0, 11), 1);
    }

    private static void far() {
        LampRound x = Villages.row(4, 0);
        Due.tell(x, 2, "path 0 to 1 in 9;path 1 to 0 in 7 until 2;path 1 to 2 in 14;path 0 to 2 in 30 until 0;path 3 to 3 in 1;");
        due.is("the shorter one", x.far(0, 1), 7);
        due.is("both ways", x.far(1, 0), 7);
        due.is("by 1", x.far(0, 2), 21);
        due.is("not reached", x.of(0, 11), 3);
        due.is("of itself", x.far(3, 3), 0);
        due.is("none", x.far(0, 3), NONE);
        due.is("none such", x.far(0, 4), NONE);
        due.is("none such", x.far(-1, 0), NONE);
        x.set(0, 0, 2);
        due.is("until 2 in 2", x.far(0, 1), 7);
        x.set(0, 0, 3);
        due.is("until 2 in 3", x.far(0, 1), 9);
        x.set(0, 0, 9);
        due.is("until not told", x.far(0, 2), 23);
        x.set(3, 0, 23);
        due.is("DUSK at most", x.of(0, 11), 7);
        x.set(3, 0, 22);
        due.is("DUSK below", x.of(0, 11), 3);
    }

    private static void book() {
        LampRound x = Villages.street(2, 50);
        Due.tell(x, 3, "need read at 0 from 0 to 9 worth 1;need mend at 0 from 0 to 9 worth 1;");
        x.set(0, 0, 6);
        x.nights(2);
        int[][] lines = {{0, 0, 1, 1, 6, 3}, {1, 1, 1, 1, 6, 0}};
        for (int i = 0; i < 2; i++)
            for (int what = 0; what < 6; what++) due.is("book(" + i + ", " + what + ")", x.book(i, what), lines[i][what]);
        due.is("book(2, 0)", x.book(2, 0), NONE);
        due.is("book(-1, 0)", x.book(-1, 0), NONE);
        due.is("book(0, 6)", x.book(0, 6), NONE);
        due.is("book(0, -1)", x.book(0, -1), NONE);
        due.is("look(3)", x.look(3), 2);
    }

    private static void run() {
        LampRound x = Villages.street(3, 1);
        Due.tell(x, 3, "need read at 2 from 3 to 9 worth 1;need read at 0 from 1 to 2 worth 1;"
            + "need bride at 1 from 0 to 2 worth 1;need read at 2 from 0 to 2 worth 1;");
        Due.tell(x, 4, "go 2;go 0;");
        x.set(1, 0, 1000);
        due.is("the 1st", x.run(1, 0), 2);
        due.is("the 2nd", x.run(2, 0), 0);
        due.is("then 1, which waited longest", x.run(3, 0), 1);
        due.is("dark in 3", x.run(3, 1), 0);
        due.is("then 2 in the dark", x.run(4, 0), 2);
        due.is("dark in 4", x.run(4, 1), 1);
        due.is("spoilt in 2", x.run(2, 2), 0);
        due.is("first of none", x.run(2, 3), NONE);
        due.is("spoilt in 3: the bride", x.run(3, 2), 4);
        due.is("the first", x.run(3, 3), 2);
        due.is("spoilt in 10", x.run(10, 2), 5);
        due.is("the first", x.run(10, 3), 2);
        due.is("run(0, 0)", x.run(0, 0), NONE);
        due.is("run(100, 0)", x.run(100, 0), NONE);
        due.is("run(1, 4)", x.run(1, 4), NONE);
        due.is("run(1, -1)", x.run(1, -1), NONE);
        due.is("dark in 99", x.run(99, 1), 96);
        due.is("night", x.look(2), 0);
        due.is("lamp", x.look(1), 0);
        due.is("oil", x.of(2, 2), 1);
        due.is("round", x.look(7), 2);
        due.is("state", x.look(4), 0);
        due.is("snow", x.look(20), 0);
        due.is("lines", x.look(3), 0);
        due.is("need", x.need(2, 6), 0);
        // Of several that spoil in one NIGHT the least; those that are SPOILT already are not told.
        LampRound y = Villages.row(2, 9);
        Due.tell(y, 3, "need read at 1 from 0 to 0 worth 1;need read at 1 from 0 to 3 worth 1;need read at 1 from 0 to 3 worth 1;");
        y.nights(1);
        due.is("spoilt", y.run(9, 2), 6);
        due.is("first", y.run(9, 3), 1);
        // The snow stays as it is: in thought 1 is not the one to go to, as it is once snow falls.
        LampRound z = Villages.street(2, 50);
        Due.tell(z, 0, "turn house when snow>0;turn 0-house;");
        z.set(1, 0, 1000);
        due.is("in thought", z.run(40, 0), 0);
        z.nights(2);
        due.is("in truth", z.look(1), 1);
    }

    private static void plan() {
        // Two worth 5 at either end of a street, but one NIGHT less than both need.
        LampRound x = Villages.street(5, 0);
        x.set(5, 0, 2);
        x.set(3, 0, 2);
        Due.tell(x, 3, "need read at 0 from 0 to 1 worth 5;need read at 4 from 0 to 1 worth 5;need mend at 1 from 1 to 1 worth 1;");
        due.is("worth of 1", x.plan(1, 0), 5);
        due.is("way of 1", x.plan(1, 1), 2);
        due.is("house of 1", x.plan(1, 10), 0);
        due.is("worth of 2", x.plan(2, 0), 6);
        due.is("way of 2", x.plan(2, 1), 3);
        due.is("first", x.plan(2, 10), 0);
        due.is("second", x.plan(2, 11), 1);
        due.is("plan(2, 12)", x.plan(2, 12), NONE);
        due.is("worth of 3", x.plan(3, 0), 6);
        due.is("way of 3", x.plan(3, 1), 3);
        due.is("third", x.plan(3, 12), 1);
        x.set(3, 0, 4);
        due.is("by a longer DUSK", x.plan(2, 0), 10);
        due.is("its way", x.plan(2, 1), 6);
        due.is("its first", x.plan(2, 10), 0);
        due.is("its second", x.plan(2, 11), 4);
        due.is("oil is not asked, nothing changes", x.look(2), 0);
        // Brides: LIT in the NIGHT ahead, really or in the plan.
        LampRound y = Villages.row(1, 9);
        Due.tell(y, 3, "need bride at 0 from 0 to 9 worth 7;");
        due.is("one night", y.plan(1, 0), 0);
        due.is("two nights", y.plan(2, 0), 7);
        y.nights(1);
        due.is("one night, lit ahead", y.plan(1, 0), 7);
        y.nights(1);
        due.is("done", y.plan(9, 0), 0);
        LampRound z = Villages.row(1, 0);
        Due.tell(z, 3, "need bride at 0 from 0 to 9 worth 7;need read at 0 from 0 to 0 worth 3;");
        z.nights(1);
        due.is("dark ahead, and spoilt", z.plan(1, 0), 0);
        due.is("dark ahead", z.plan(2, 0), 7);
        // Of plans alike in worth and way the first one by its HOUSES.
        LampRound w = Villages.street(3, 9);
        w.set(5, 0, 1);
        Due.tell(w, 3, "need read at 0 from 0 to 0 worth 1;need read at 2 from 0 to 0 worth 1;");
        due.is("0 ahead of 2", w.plan(1, 10), 0);
        due.is("nothing to do: stays", w.plan(10, 1), 1);
        for (int k = 0; k < 10; k++) due.is("night " + k, w.plan(10, 10 + k), 0);
    }

    private static void planBounds() {
        LampRound x = Villages.street(2, 9);
        due.is("plan(0, 0)", x.plan(0, 0), NONE);
        due.is("plan(11, 0)", x.plan(11, 0), NONE);
        due.is("plan(-1, 10)", x.plan(-1, 10), NONE);
        due.is("plan(1, 2)", x.plan(1, 2), NONE);
        due.is("plan(1, 9)", x.plan(1, 9), NONE);
        due.is("plan(1, -1)", x.plan(1, -1), NONE);
        due.is("plan(10, 20)", x.plan(10, 20), NONE);
        due.is("plan(10, 19)", x.plan(10, 19), 0);
        due.is("no house", new LampRound().plan(1, 0), NONE);
        // Thought anew after whatever changes it.
        Due.tell(x, 3, "need read at 1 from 0 to 9 worth 4;");
        due.is("needs told", x.plan(10, 0), 4);
        due.is("its way", x.plan(10, 1), 1);
        x.set(3, 0, 1);
        Due.tell(x, 2, "path 0 to 1 in 2;");
        due.is("paths told", x.plan(10, 0), 0);
        x.set(3, 0, 2);
        due.is("dusk told", x.plan(10, 1), 2);
        x.set(5, 0, 1);
        due.is("lamp told", x.plan(10, 1), 0);
        x.image(true);
        x.nights(2);
        due.is("a night has done it", x.plan(10, 0), 0);
        x.undo();
        x.undo();
        due.is("undone", x.plan(10, 0), 4);
        x.nights(2);
        due.is("done again", x.plan(10, 0), 0);
        x.image(false);
        due.is("gone back", x.plan(10, 0), 4);
    }

    private static void mend() {
        LampRound x = new LampRound();
        due.is("none at all", x.mend(NONE), 0);
        due.is("none such", x.mend(0), NONE);
        x.house(0, 2, 999);
        x.house(1, 3, 0);
        x.house(2, 5, 0);
        x.nights(3);
        // 3 nights by 2: shares must be alike, so 4, 6 and 10.
        due.is("all", x.mend(NONE), 1 + 6 + 10);
        due.is("of 0", x.mend(0), 1);
        due.is("of 1", x.mend(1), 6);
        due.is("of 2", x.mend(2), 10);
        due.is("of 3", x.mend(3), NONE);
        due.is("of -2", x.mend(-2), NONE);
        x.set(2, 0, 1);
        // (a + 1) p_b >= b p_a: 3 by 2 asks 5 - 1 of 1 (4.5 upwards) and 8 - 1 of 2 (7.5 upwards);
        // 7 by 5 then asks 5 - 1 of 1 (4.2), 4 by 3 asks 7 - 1 (6.7) of 2: nothing more.
        due.is("by a margin, 1", x.mend(1), 4);
        due.is("by a margin, 2", x.mend(2), 7);
        due.is("by a margin, 0", x.mend(0), 0);
        due.is("had stays", x.of(1, 4), 0);
        x.set(2, 0, 99);
        due.is("nobody envies", x.mend(NONE), 0);
        // 500 by 1 asks 10000 of 20: one too many; 499 asks 9980.
        LampRound y = new LampRound();
        y.house(0, 1, 500);
        y.house(1, 20, 0);
        for (int i = 0; i < 8; i++) y.nights(60);
        y.nights(19);
        due.is("had", y.of(0, 4), 499);
        due.is("9980", y.mend(1), 9980);
        y.nights(1);
        due.is("10000", y.mend(1), NONE);
        due.is("can't be", y.mend(NONE), NONE);
        due.is("of no house", y.mend(0), NONE);
        y.set(2, 0, 1);
        due.is("9999", y.mend(1), 9999);
        y.set(2, 0, 0);
        y.set(5, 0, 1);
        y.set(7, 1, 1);
        y.nights(1);
        due.is("9999 more than 1", y.mend(1), 9999);
    }

    private static void rooms() {
        LampRound x = Villages.row(6, 0);
        due.is("none", x.rooms(0), 0);
        due.is("alone", x.rooms(10), NONE);
        x.friends(0, 1, true);
        x.friends(1, 2, true);
        x.friends(2, 0, true);
        due.is("of three one pair", x.rooms(0), 1);
        due.is("0 is with 1", x.rooms(10), 1);
        due.is("1 with 0", x.rooms(11), 0);
        due.is("2 alone", x.rooms(12), NONE);
        x.friends(1, 5, true);
        // 0 with 1 leaves 2 alone and 5: so 0 with 2, 1 with 5.
        due.is("two pairs", x.rooms(0), 2);
        due.is("0 with 2", x.rooms(10), 2);
        due.is("1 with 5", x.rooms(11), 5);
        due.is("5 with 1", x.rooms(15), 1);
        due.is("3 alone", x.rooms(13), NONE);
        x.friends(2, 3, true);
        // 0-1, 2-3 are two as well as 0-2, 1-5: the lesser of 0 goes ahead.
        due.is("0 with 1", x.rooms(10), 1);
        due.is("2 with 3", x.rooms(12), 3);
        due.is("5 alone", x.rooms(15), NONE);
        x.friends(0, 4, true);
        due.is("three pairs", x.rooms(0), 3);
        due.is("0 with 4", x.rooms(10), 4);
        due.is("another what", x.rooms(1), NONE);
        due.is("another what", x.rooms(9), NONE);
        due.is("none such", x.rooms(16), NONE);
        due.is("below", x.rooms(-1), NONE);
    }

    private static void sale() {
        LampRound x = Villages.row(3, 0);
        due.is("no bid", x.sale(0), NONE);
        due.is("no price", x.sale(1), NONE);
        x.set(9, 1, 8);
        due.is("the only one", x.sale(0), 1);
        due.is("for nothing", x.sale(1), 0);
        x.set(9, 2, 8);
        due.is("the least of equals", x.sale(0), 1);
        due.is("the same price", x.sale(1), 8);
        x.set(9, 0, 9);
        due.is("the greatest", x.sale(0), 0);
        due.is("the second's", x.sale(1), 8);
        due.is("another what", x.sale(2), NONE);
        due.is("another what", x.sale(-1), NONE);
    }

    private static void liars() {
        LampRound x = Villages.row(3, 5);
        due.is("none", x.liars(), 0);
        x.nights(2);
        x.set(10, 2, 1);
        due.is("0 hides, 2 boasts", x.liars(), 5);
        x.set(10, 0, 2);
        due.is("2 alone", x.liars(), 4);
        due.is("no house", new LampRound().liars(), 0);
    }

    private static void sure() {
        LampRound x = Villages.row(3, 0);
        Due.tell(x, 2, "path 0 to 1 in 5 until 2;path 1 to 2 in 5 until 1;");
        due.is("no flakes", x.sure(0, 1, 9), 1000000);
        due.is("itself", x.sure(2, 2, 1), 1000000);
        x.set(1, 0, 333);
        x.set(0, 0, 2);
        // 2: 333000 go to 3, 667000 to 1.
        due.is("by one", x.sure(0, 1, 1), 667000);
        // 3: 110889 to 4, 222111 to 2; 1: 222111 to 2, 444889 to 0.
        due.is("by two", x.sure(0, 1, 2), 889111);
        due.is("two paths by two", x.sure(0, 2, 2), 444889);
        // 444889 * 333 / 1000 downwards is 148148, the rest 296741 stays at 0.
        due.is("downwards", x.sure(0, 2, 3), 148148 + 296741 + (444222 - 147925));
        x.set(0, 0, 9);
        x.set(1, 0, 1000);
        due.is("9 at most", x.sure(0, 1, 9), 0);
        x.set(3, 0, 4);
        x.set(0, 0, 0);
        x.set(1, 0, 0);
        due.is("too far", x.sure(0, 1, 1), 0);
        due.is("k 0", x.sure(0, 1, 0), NONE);
        due.is("k 10", x.sure(0, 1, 10), NONE);
        due.is("none such", x.sure(3, 0, 1), NONE);
        due.is("no such goal", x.sure(0, 3, 1), NONE);
        due.is("below", x.sure(-1, 0, 1), NONE);
        due.is("snow stays", x.look(20), 0);
    }

    private static void best() {
        LampRound x = Villages.row(4, 0);
        Due.tell(x, 2, "path 0 to 1 in 5;path 1 to 2 in 5 until 0;path 0 to 3 in 20;path 3 to 2 in 20 until 5;");
        x.set(1, 0, 500);
        due.is("all alike: the goal itself", x.best(2, 1), 2);
        x.set(3, 0, 9);
        // From 0 only 1 is REACHED; 2 is not, as 10 is above 9.
        due.is("0 or 1 for 2", x.best(2, 1), 1);
        due.is("for 3 none: the least", x.best(3, 1), 0);
        x.set(3, 0, 99);
        due.is("the least that is surest", x.best(1, 1), 0);
        x.set(0, 0, 3);
        due.is("the goal, or who stays near it", x.best(2, 9), 2);
        due.is("k 0", x.best(2, 0), NONE);
        due.is("k 10", x.best(2, 10), NONE);
        due.is("none such", x.best(4, 1), NONE);
        due.is("below", x.best(-1, 1), NONE);
        due.is("reached as before", x.of(0, 11), 15);
    }

    private static void clues() {
        LampRound x = Villages.street(3, 0);
        x.set(3, 0, 1);
        due.is("ways(1)", x.ways(1), 3);
        // 0 and 2 go on to two each, 1 to three: 7, then 17.
        due.is("ways(2)", x.ways(2), 7);
        due.is("ways(3)", x.ways(3), 17);
        due.is("ways(0)", x.ways(0), NONE);
        due.is("ways(11)", x.ways(11), NONE);
        due.is("night -2", x.clue(-2, 1), NONE);
        due.is("night 10", x.clue(10, 1), NONE);
        due.is("empty", x.clue(0, 0), NONE);
        due.is("no such house", x.clue(0, 8), NONE);
        due.is("below", x.clue(0, -1), NONE);
        due.is("in 0 at 0", x.clue(0, 1), 1);
        due.is("in 2 at 2", x.clue(2, 4), 2);
        due.is("only night 0 counts", x.ways(2), 2);
        due.is("by 1", x.ways(3), 1);
        due.is("been", x.been(3, 1), 2);
        due.is("been, in 2 nights", x.been(2, 1), 3);
        due.is("in 1 not at 1", x.clue(1, 5), 3);
        due.is("no way", x.ways(3), 0);
        due.is("been nowhere", x.been(3, 1), 0);
        due.is("nothing to ask", x.ask(3, 0), NONE);
        for (int i = 4; i <= 8; i++) due.is("clue " + i, x.clue(9, 7), i);
        due.is("the 9th", x.clue(9, 7), NONE);
        due.is("look(10)", x.look(10), 8);
        due.is("none then", x.clue(NONE, 0), 0);
        due.is("ways(3)", x.ways(3), 17);
        due.is("been(3, 3)", x.been(3, 3), NONE);
        due.is("been(3, -1)", x.been(3, -1), NONE);
        due.is("been(0, 0)", x.been(0, 0), NONE);
        due.is("been(11, 0)", x.been(11, 0), NONE);
        LampRound y = new LampRound();
        for (int i = 0; i < 10; i++) y.house(i, 1, 0);
        Due.tell(y, 2, "path0to1in1;path1to2in1;path2to3in1;path3to4in1;path4to5in1;path5to6in1;path6to7in1;path7to8in1;path8to9in1;");
        due.is("ten to the tenth", y.ways(10), 10000000000L);
        due.is("no house", new LampRound().ways(1), 0);
    }

    private static void ask() {
        LampRound x = Villages.street(3, 0);
        x.set(3, 0, 1);
        // Of 7 rows of two: in NIGHT 0 at 0 2, at 1 3, at 2 2: at 1 leaves 4.
        due.is("night", x.ask(2, 0), 0);
        due.is("house", x.ask(2, 1), 1);
        x.clue(0, 2);
        // 1 goes to each: in NIGHT 1 each is one of three; NIGHT 0 tells nothing.
        due.is("night", x.ask(2, 0), 1);
        due.is("house", x.ask(2, 1), 0);
        x.clue(1, 2);
        due.is("one way is left", x.ask(2, 0), 0);
        due.is("one way is left", x.ask(2, 1), 0);
        due.is("another what", x.ask(2, 2), NONE);
        due.is("another what", x.ask(2, -1), NONE);
        due.is("ask(0, 0)", x.ask(0, 0), NONE);
        due.is("ask(11, 0)", x.ask(11, 0), NONE);
        due.is("no house", new LampRound().ask(1, 0), NONE);
    }

    private static void undo() {
        LampRound x = Villages.street(2, 50);
        Due.tell(x, 3, "need read at 1 from 0 to 1 worth 1;need read at 1 from 2 to 2 worth 1;");
        Due.tell(x, 4, "stay 1;go 1;");
        x.set(1, 0, 1000);
        x.set(4, 0, 1);
        due.no("nothing", x.undo());
        x.nights(3);
        due.is("look(11)", x.look(11), 3);
        due.is("spoilt", x.need(1, 6), 1);
        due.yes("undo", x.undo());
        due.is("not spoilt", x.need(1, 6), 0);
        due.is("lamp", x.look(1), 1);
        due.is("snow", x.look(20), 2);
        due.is("round", x.look(7), 0);
        due.yes("undo", x.undo());
        due.is("not done", x.need(0, 5), NONE);
        due.is("round", x.look(7), 1);
        due.is("lines", x.look(3), 1);
        due.is("book(1, 0)", x.book(1, 0), NONE);
        due.is("had", x.of(1, 4), 0);
        due.is("last", x.of(1, 5), NONE);
        due.is("oil", x.of(1, 2), 50);
        due.is("owed", x.of(1, 3), 1);
        due.is("state", x.look(4), 1013904223);
        due.yes("undo", x.undo());
        due.is("night", x.look(2), 0);
        due.is("state", x.look(4), 0);
        due.no("nothing", x.undo());
        x.nights(20);
        due.is("6 are kept", x.look(11), 6);
        for (int i = 0; i < 6; i++) due.yes("undo " + i, x.undo());
        due.no("the 7th", x.undo());
        due.is("night", x.look(2), 14);
        x.nights(2);
        x.nights(2);
        x.undo();
        x.nights(2);
        due.is("what was undone is gone", x.look(11), 5);
        due.is("night", x.look(2), 19);
    }

    /** A village with a NIGHT that can be undone. */
    private static LampRound passed() {
        LampRound x = Villages.street(2, 50);
        x.image(true);
        x.nights(1);
        return x;
    }

    private static void undoForgets() {
        LampRound x = passed();
        due.told(x, 0, "turn 1;", 1);
        due.told(x, 1, "burn 2;", 1);
        x.clue(0, 1);
        x.clue(NONE, 0);
        x.image(true);
        x.feed(0, 0, 0, 0, 0);
        x.end(0);
        x.house(0, 1, 1);
        x.set(0, 0, 10);
        x.friends(0, 0, true);
        due.is("nothing told", x.text(7), NONE);
        x.nights(0);
        x.run(5, 0);
        x.plan(5, 0);
        due.is("kept", x.look(11), 1);
        due.yes("undo", x.undo());
        due.is("the laws stay", x.look(8) + x.look(9), 2);
        x = passed();
        x.state(0);
        due.no("after state", x.undo());
        x = passed();
        x.house(9, 1, 1);
        due.no("after house", x.undo());
        x = passed();
        x.set(0, 0, 0);
        due.no("after set", x.undo());
        x = passed();
        x.friends(0, 1, false);
        due.no("after friends", x.undo());
        for (int k = 2; k < 5; k++) {
            x = passed();
            x.text(k);
            due.no("after text " + k, x.undo());
        }
        x = passed();
        x.image(false);
        due.no("after the image", x.undo());
    }

    private static void image() {
        LampRound x = Villages.street(3, 50);
        due.no("none yet", x.image(false));
        Due.tell(x, 0, "turn house;turn 1;");
        Due.tell(x, 1, "burn 2;");
        Due.tell(x, 3, "need read at 2 from 0 to 9 worth 1;need read at 0 from 2 to 2 worth 1;");
        Due.tell(x, 4, "stay 1;go 1;stay 4;");
        x.friends(0, 1, true);
        x.clue(1, 3);
        x.set(1, 0, 700);
        x.set(2, 0, 7);
        x.set(3, 0, 3);
        x.set(4, 0, 4);
        x.set(9, 1, 5);
        x.set(10, 2, 6);
        x.nights(2);
        int[] looks = {0, 1, 2, 3, 4, 5, 6, 7, 8, 9, 10, 20, 21, 22, 23, 24};
        int[] was = new int[looks.length];
        for (int i = 0; i < looks.length; i++) was[i] = x.look(looks[i]);
        int[][] of = new int[3][14];
        for (int h = 0; h < 3; h++) for (int what = 0; what < 14; what++) of[h][what] = x.of(h, what);
        due.yes("taken", x.image(true));
        due.is("kept", x.look(11), 2);
        for (int again = 0; again < 2; again++) {
            x.house(60, 9, 9);
            x.nights(7);
            x.state(99);
            for (int k = 0; k < 5; k++) due.told(x, k, "", 0);
            x.friends(0, 1, false);
            x.friends(1, 2, true);
            x.clue(NONE, 0);
            x.clue(0, 1);
            for (int what = 0; what <= 4; what++) x.set(what, 0, 2);
            for (int what = 6; what <= 10; what++) for (int h = 0; h < 4; h++) x.set(what, h, 11);
            x.nights(2);
            Due.tell(x, 0, "turn ?");
            x.feed(0x7475726e, 0x20313b20, 0x20202020, 0x20202020, 0x20202020);
            due.yes("gone back", x.image(false));
            due.is("the fault stays", x.fault(0), 1);
            due.is("its place stays", x.fault(1), 5);
            due.is("nothing to undo", x.look(11), 0);
            for (int i = 0; i < looks.length; i++) due.is("look(" + looks[i] + ") again", x.look(looks[i]), was[i]);
            for (int h = 0; h < 3; h++)
                for (int what = 0; what < 14; what++) due.is("of(" + h + ", " + what + ") again", x.of(h, what), of[h][what]);
            due.is("book", x.book(1, 1), 1);
            due.is("need", x.need(0, 7), 1);
            due.is("need", x.need(1, 4), 1);
            due.is("ways by the clue", x.ways(2), 6);
            due.is("the tape is still there", x.text(0), 1);
            x.image(false);
        }
        x.nights(1);
        due.is("the next need is spoilt", x.need(1, 6), 1);
        x.image(true);
        x.nights(1);
        x.image(false);
        due.is("a later image", x.look(2), 3);
        // The book goes back, too, where its lines were written anew.
        LampRound y = Villages.street(2, 50);
        y.nights(2);
        y.image(true);
        y.undo();
        y.undo();
        y.set(5, 0, 1);
        Due.tell(y, 1, "burn 9;");
        Due.tell(y, 4, "stay 2;");
        y.nights(2);
        due.is("another line", y.book(0, 1), 1);
        y.image(false);
        due.is("line 0", y.book(0, 1), 0);
        due.is("line 0", y.book(0, 3), 1);
        due.is("line 1", y.book(1, 1), 1);
    }

    private static void look() {
        LampRound x = Villages.street(2, 50);
        for (int what = 12; what < 20; what++) due.is("look(" + what + ")", x.look(what), -1000);
        due.is("look(25)", x.look(25), -1000);
        due.is("look(-1)", x.look(-1), -1000);
        due.is("houses", x.look(0), 2);
        due.is("paths", x.look(6), 1);
        x.set(1, 0, 12);
        x.set(2, 0, 13);
        x.set(3, 0, 14);
        x.set(4, 0, 15);
        x.set(0, 0, 6);
        for (int i = 0; i < 5; i++) due.is("look(" + (20 + i) + ")", x.look(20 + i), new int[] {6, 12, 13, 14, 15}[i]);
    }
}
