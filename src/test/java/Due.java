import java.nio.charset.StandardCharsets;

/** What the tests share: answers against what is due, and texts told as bytes. */
final class Due {
    private final String test;
    private int wrong = 0;
    private int asked = 0;

    Due(String test) {
        this.test = test;
    }

    void is(String call, long got, long want) {
        asked++;
        if (got != want) {
            wrong++;
            System.out.println(test + ": " + call + " answered " + got + ", due is " + want);
        }
    }

    void yes(String call, boolean got) {
        is(call, got ? 1 : 0, 1);
    }

    void no(String call, boolean got) {
        is(call, got ? 1 : 0, 0);
    }

    /** Ends the program: with 1 if an answer was wrong. */
    void close() {
        System.out.println(wrong == 0 ? asked + " answers, all as due" : wrong + " answers are not as due");
        if (wrong != 0) System.exit(1);
    }

    /** Puts a text on the TAPE, which was empty. */
    static void put(LampRound x, String text) {
        byte[] bytes = text.getBytes(StandardCharsets.ISO_8859_1);
        for (int i = 0; i < bytes.length; i += 20) {
            int[] five = new int[5];
            for (int j = 0; j < 20; j++) {
                int b = i + j < bytes.length ? bytes[i + j] & 255 : 32;
                five[j / 4] = five[j / 4] << 8 | b;
            }
            x.feed(five[0], five[1], five[2], five[3], five[4]);
        }
        x.end(bytes.length);
    }

    static int tell(LampRound x, int k, String text) {
        put(x, text);
        return x.text(k);
    }

    /** The text has that FAULT at that place. */
    void fault(LampRound x, int k, String text, int fault, int place) {
        String call = "text " + k + " of \"" + text + "\"";
        is(call, tell(x, k, text), -1);
        is(call + ": fault", x.fault(0), fault);
        is(call + ": place", x.fault(1), place);
    }

    void told(LampRound x, int k, String text, int count) {
        String call = "text " + k + " of \"" + text + "\"";
        is(call, tell(x, k, text), count);
        is(call + ": fault", x.fault(0), 0);
        is(call + ": place", x.fault(1), -1);
    }
}
