import java.util.Arrays;
import java.util.List;

/** Which TOKENS may stand where: behind each beginning of a text all that may come, and all that may not. */
final class TokenBounds {
    private static final int NONE = BoundsTest.NONE;
    /** All KEYWORDS, a NUMBER that is within all bounds, all signs, and what is no TOKEN at all. */
    private static final String ALL = "turn burn when or and not house owed waited snow oil season people needs far bid "
        + "path to in until need birth read mend bride at from worth go stay again 1 ; + - * / ( ) < = > "
        + "turns Turn tur TURN x 12345 00001 . , : ? ! { } [ ] _ & | % # @ ~ ^ \" ' \\";
    private static final String READINGS = "house owed waited snow oil season people needs";
    private static final String SUM = " + - * /";

    private final Due due;
    private final Doc doc;

    TokenBounds(BoundsTest test) {
        due = test.due;
        doc = test.doc;
    }

    void check() {
        doc.says("1 what can't stand there (the end: the text's length).");
        paths();
        needs();
        rounds();
        law(0, "turn", READINGS + " far bid");
        law(1, "burn", READINGS);
        words();
        digits();
        blanks();
        bytes();
    }

    /** Behind this beginning each of these may come, END for the end, and nothing else. */
    private void then(int k, String ahead, String may) {
        List<String> allowed = Arrays.asList(may.split(" "));
        String start = ahead.isEmpty() ? "" : ahead + " ";
        for (String token : ALL.split(" ")) {
            LampRound x = Villages.row(2, 0);
            String text = start + token;
            int lines = Due.tell(x, k, text);
            String call = "text " + k + " of \"" + text + "\"";
            if (!allowed.contains(token)) {
                due.is(call, lines, NONE);
                due.is(call + ": fault", x.fault(0), 1);
                due.is(call + ": place", x.fault(1), start.length());
            } else if (lines == NONE) {
                due.is(call + ": fault of its end", x.fault(0), 1);
                due.is(call + ": place of its end", x.fault(1), text.length());
            }
        }
        LampRound x = Villages.row(2, 0);
        if (allowed.contains("END")) due.yes("may end: " + ahead, Due.tell(x, k, ahead) >= 0);
        else due.fault(x, k, ahead, 1, ahead.length());
    }

    private void paths() {
        doc.says("2 PATHS = {path HOUSE to HOUSE in N [until SNOW] ;}");
        then(2, "", "path END");
        then(2, "path", "1");
        then(2, "path 0", "to");
        then(2, "path 0 to", "1");
        then(2, "path 0 to 1", "in");
        then(2, "path 0 to 1 in", "1");
        then(2, "path 0 to 1 in 5", "until ;");
        then(2, "path 0 to 1 in 5 until", "1");
        then(2, "path 0 to 1 in 5 until 9", ";");
        then(2, "path 0 to 1 in 5 ;", "path END");
        then(2, "path 0 to 1 in 5 until 9 ;", "path END");
    }

    private void needs() {
        doc.says("3 NEEDS = {need (birth | read | mend | bride) at HOUSE from N to N worth N ;}");
        then(3, "", "need END");
        then(3, "need", "birth read mend bride");
        for (String kind : new String[] {"birth", "read", "mend", "bride"}) then(3, "need " + kind, "at");
        then(3, "need read at", "1");
        then(3, "need read at 0", "from");
        then(3, "need read at 0 from", "1");
        then(3, "need read at 0 from 0", "to");
        then(3, "need read at 0 from 0 to", "1");
        then(3, "need read at 0 from 0 to 0", "worth");
        then(3, "need read at 0 from 0 to 0 worth", "1");
        then(3, "need read at 0 from 0 to 0 worth 5", ";");
        then(3, "need read at 0 from 0 to 0 worth 5 ;", "need END");
    }

    private void rounds() {
        doc.says("4 A ROUND = {go HOUSE ; | stay N ; | again N ( {go ..} )}");
        then(4, "", "go stay again END");
        then(4, "go", "1");
        then(4, "go 0", ";");
        then(4, "go 0 ;", "go stay again END");
        then(4, "stay", "1");
        then(4, "stay 5", ";");
        then(4, "stay 5 ;", "go stay again END");
        then(4, "again", "1");
        then(4, "again 2", "(");
        then(4, "again 2 (", "go stay again )");
        then(4, "again 2 ( go 0 ;", "go stay again )");
        then(4, "again 2 ( again 3 (", "go stay again )");
        then(4, "again 2 ( again 3 ( )", "go stay again )");
        then(4, "again 2 ( )", "go stay again END");
        then(4, "again 2 ( again 3 ( ) )", "go stay again END");
    }

    private void law(int k, String line, String readings) {
        if (k == 0) {
            doc.says("0 THE LAW OF TURNS = {turn E [when B] ;}, 1 OF BURNING = {burn E [when B] ;}. B = A {or A}. "
                + "A = C {and C}. C = E (< | = | >) E | not C | ( B ). E = T {(+ | -) T}. T = U {* U | / NUMBER}. "
                + "U = NUMBER | house | owed | waited | snow | oil | season | people | needs, of TURNS besides | far | bid.");
        }
        String operand = "1 " + readings, part = operand + " not (";
        then(k, "", line + " END");
        then(k, line, operand);
        for (String u : operand.split(" ")) then(k, line + " " + u, "when ;" + SUM);
        for (String sign : new String[] {"+", "-", "*"}) then(k, line + " 7 " + sign, operand);
        then(k, line + " 7 /", "1");
        for (String t : new String[] {"7 + 7", "7 - 7", "7 * 7", "7 / 7"}) then(k, line + " " + t, "when ;" + SUM);
        then(k, line + " 7 ;", line + " END");
        then(k, line + " 7 when", part);
        then(k, line + " 7 when not", part);
        then(k, line + " 7 when (", part);
        then(k, line + " 7 when 7", "< = >" + SUM);
        then(k, line + " 7 when 7 /", "1");
        then(k, line + " 7 when 7 / 7", "< = >" + SUM);
        then(k, line + " 7 when ( 7", "< = >" + SUM);
        for (String sign : new String[] {"<", "=", ">"}) {
            then(k, line + " 7 when 7 " + sign, operand);
            then(k, line + " 7 when 7 " + sign + " 7", "and or ;" + SUM);
            then(k, line + " 7 when ( 7 " + sign + " 7", "and or )" + SUM);
            then(k, line + " 7 when not 7 " + sign + " 7", "and or ;" + SUM);
        }
        then(k, line + " 7 when 7 = 7 and", part);
        then(k, line + " 7 when 7 = 7 or", part);
        then(k, line + " 7 when 7 = 7 and 7", "< = >" + SUM);
        then(k, line + " 7 when ( 7 = 7 )", "and or ;");
        then(k, line + " 7 when ( ( 7 = 7 )", "and or )");
        then(k, line + " 7 when not ( not 7 = 7 )", "and or ;");
        then(k, line + " 7 when 7 = 7 ;", line + " END");
    }

    private void words() {
        doc.says("TOKENS: letters as many as stand together are KEYWORDS (those told here for that text) or none;");
        LampRound x = Villages.row(2, 0);
        due.told(x, 0, "turn1when1=1and1=1or not 1=1;", 1);
        due.told(x, 2, "path0to1in5until9;path1to0in5;", 2);
        due.told(x, 4, "go0;stay1;again1(go1;)", 3);
        due.fault(x, 4, "gostay 1;", 1, 0);
        due.fault(x, 0, "turnhouse;", 1, 0);
        due.fault(x, 0, "tur n 1;", 1, 0);
        due.fault(x, 0, "turn housewhen 1=1;", 1, 5);
        due.fault(x, 0, "turn 1 when 1=1 ora 1=1;", 1, 16);
        due.fault(x, 0, "turn 1 when 1=1 o 1=1;", 1, 16);
        // The first and the last letters go on, what stands beside them does not.
        x = Villages.row(2, 0);
        for (char letter : "azAZ".toCharArray()) due.fault(x, 0, "turn" + letter + " 1;", 1, 0);
        for (char other : "`{@[_".toCharArray()) due.fault(x, 0, "turn" + other + " 1;", 1, 4);
    }

    private void digits() {
        doc.says("digits as many as stand together NUMBERS of 1 to 4 digits or none; ; + - * / ( ) < = > .");
        int[] told = {0, 9, 10, 99, 100, 999, 1000, 9999};
        LampRound x = Villages.row(2, 0);
        for (int n : told) {
            due.told(x, 0, "turn " + n + ";", 1);
            due.is("a number", x.of(0, 8), n);
        }
        String[] zeros = {"00", "000", "0000", "01", "001", "0001", "0999"};
        x = Villages.row(2, 0);
        for (String n : zeros) {
            due.told(x, 0, "turn " + n + ";", 1);
            due.is("a number with zeros", x.of(0, 8), Integer.parseInt(n));
        }
        x = Villages.row(2, 0);
        for (String n : new String[] {"00000", "00001", "10000", "99999", "2147483648", "4294967297"})
            due.fault(x, 0, "turn " + n + ";", 1, 5);
        due.fault(x, 0, "turn 1 2;", 1, 7);
        due.fault(x, 0, "turn 1/ 2;turn 1 /", 1, 18);
        due.fault(x, 2, "path 00000 to 1 in 1;", 1, 5);
        due.told(x, 2, "path 0000 to 0001 in 0099 until 0009;", 1);
        // The first and the last digits go on, what stands beside them does not.
        for (char digit : "09".toCharArray()) due.fault(x, 0, "turn 1234" + digit + ";", 1, 5);
        for (char other : "/:".toCharArray()) due.fault(x, 0, "turn 1234" + other + ";", 1, other == '/' ? 10 : 9);
    }

    private void blanks() {
        doc.says("Blanks (32, 10) between.");
        LampRound x = Villages.row(2, 0);
        due.told(x, 0, "\n \nturn\n7\n+\n1 \n ;\n ", 1);
        due.is("the sum", x.of(0, 8), 8);
        due.told(x, 0, "turn 7+1;", 1);
        for (int sign : new int[] {0, 9, 11, 12, 13, 31, 127, 128, 160, 255}) {
            LampRound y = Villages.row(2, 0);
            due.fault(y, 0, "turn" + (char) sign + "7;", 1, 4);
            due.fault(y, 0, (char) sign + "turn 7;", 1, 0);
            due.fault(y, 0, "turn 7;" + (char) sign, 1, 7);
        }
        due.fault(x, 0, "turn\n", 1, 5);
        due.fault(x, 0, " \n?", 1, 2);
    }

    /** Whatever byte comes behind a LAW that could end there: only blanks and the line's letter go on. */
    private void bytes() {
        for (int b = 0; b < 256; b++) {
            LampRound x = Villages.row(2, 0);
            String text = "turn 7;" + (char) b;
            if (b == 32 || b == 10) due.told(x, 0, text, 1);
            else due.fault(x, 0, text, 1, 7);
            String digit = "turn 7" + (char) b + "8;";
            boolean goesOn = b == '+' || b == '-' || b == '*' || b == '/' || b >= '0' && b <= '9';
            if (goesOn) due.told(x, 0, digit, 1);
            else due.fault(x, 0, digit, 1, b == ';' || b == 32 || b == 10 ? 7 : 6);
        }
    }
}
