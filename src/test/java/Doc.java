import java.io.IOException;
import java.nio.charset.StandardCharsets;
import java.nio.file.Files;
import java.nio.file.Path;

/** DOC.md's own words, from its Terms to its last promise, and which of them a test has named. */
final class Doc {
    private static final Path FILE = Path.of("../shared/DOC.md");

    private final Due due;
    private final String text;
    private final boolean[] named;

    Doc(Due due) throws IOException {
        this.due = due;
        text = Files.isReadable(FILE) ? words(Files.readString(FILE, StandardCharsets.UTF_8)) : "";
        named = new boolean[text.length()];
        if (text.isEmpty()) System.out.println("no " + FILE + ": its words are not compared");
    }

    /** Without headings and marks of its form, and with single blanks. */
    private static String words(String file) {
        int start = file.indexOf("## Terms"), end = file.indexOf("## Not promised");
        String part = start < 0 || end < start ? file : file.substring(start, end);
        return part.replaceAll("(?m)^(##|```).*$", "").replaceAll("==== \\d\\. ", "").replaceAll("\\s+", " ").trim();
    }

    /** The checks that follow are about these words. */
    void says(String words) {
        if (text.isEmpty()) return;
        int at = text.indexOf(words);
        due.yes("DOC.md says: " + words, at >= 0);
        due.no("DOC.md says more than once: " + words, at >= 0 && text.indexOf(words, at + 1) >= 0);
        for (int i = Math.max(0, at); i < at + words.length(); i++) named[i] = true;
    }

    /** Each stretch that no test has named is one that is not as due. */
    void close() {
        for (int i = 0; i < named.length; i++) {
            int start = i;
            while (i < named.length && !named[i]) i++;
            String left = text.substring(start, i).trim();
            due.is("DOC.md, named by no test: " + left, left.length(), 0);
        }
    }
}
