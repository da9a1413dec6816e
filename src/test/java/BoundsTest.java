import java.io.IOException;
import java.util.List;
import java.util.function.Consumer;

/**
 * Each sentence of the document that names a boundary, on both sides of it. The words of each stand
 * ahead of its checks; at the end no word of the document's Terms and promises is left unnamed.
 */
public final class BoundsTest {
    static final int NONE = LampRound.NONE;
    static final int MIN = Integer.MIN_VALUE;
    static final int MAX = Integer.MAX_VALUE;

    final Due due;
    final Doc doc;

    private BoundsTest() throws IOException {
        due = new Due("BoundsTest");
        doc = new Doc(due);
    }

    public static void main(String[] args) throws IOException {
        BoundsTest test = new BoundsTest();
        new HouseBounds(test).check();
        new TokenBounds(test).check();
        new TextBounds(test).check();
        new LawBounds(test).check();
        new NightBounds(test).check();
        new ThoughtBounds(test).check();
        new GuessBounds(test).check();
        new BackBounds(test).check();
        test.doc.close();
        test.due.close();
    }

    /** A busy village answers the same, whether that call came or not. */
    void changesNothing(String call, Consumer<LampRound> made) {
        LampRound x = Villages.busy(), y = Villages.busy();
        made.accept(y);
        List<String> want = Villages.answers(x), got = Villages.answers(y);
        for (int i = 0; i < want.size(); i++) {
            if (!want.get(i).equals(got.get(i))) {
                due.is("after " + call + ": " + got.get(i) + ", due is " + want.get(i), 1, 0);
                return;
            }
        }
        due.is("after " + call + ": answers", got.size(), want.size());
    }

    /** A call with one number is refused by that answer for each of these, and changes nothing. */
    void refused(String call, Asked asked, long answer, int... numbers) {
        for (int n : numbers) {
            String name = call.replace("_", "" + n);
            due.is(name, asked.of(Villages.busy(), n), answer);
            changesNothing(name, x -> asked.of(x, n));
        }
    }

    /** A call, with one of its numbers left open. */
    interface Asked {
        long of(LampRound x, int n);
    }
}
