import java.io.File;
import java.lang.reflect.Method;
import java.nio.charset.StandardCharsets;
import java.nio.file.Files;
import java.nio.file.Path;
import java.util.regex.Matcher;
import java.util.regex.Pattern;

/** README.md's run of calls has the answers that it tells, and README.md names every test. */
public final class ReadmeTest {
    private static final Due due = new Due("ReadmeTest");

    public static void main(String[] args) throws Exception {
        String readme = Files.readString(Path.of("README.md"), StandardCharsets.UTF_8);
        run(readme);
        for (String file : new File("src/test/java").list()) {
            String name = file.replace(".java", "");
            if (name.endsWith("Test")) due.yes("README.md names " + name, readme.contains("`" + name + "`"));
        }
        due.yes("README.md says how all tests are run", readme.contains("bash .ci/run"));
        due.yes("README.md says how one test is run", readme.contains("java -cp /tmp/own PromisesTest"));
        due.close();
    }

    private static void run(String readme) throws Exception {
        Matcher block = Pattern.compile("```java\n(.*?)```", Pattern.DOTALL).matcher(readme);
        boolean there = block.find();
        due.yes("README.md has a run of calls", there);
        if (!there) return;
        LampRound village = new LampRound();
        int calls = 0;
        for (String line : block.group(1).split("\n")) {
            if (!line.startsWith("village.")) continue;
            Matcher call = Pattern.compile("village\\.(\\w+)\\((.*?)\\); *// (\\S+).*").matcher(line);
            boolean told = call.matches();
            due.yes("an answer stands behind " + line, told);
            if (!told) continue;
            Object got = answer(village, call.group(1), call.group(2));
            due.yes(line + " (answered " + got + ")", call.group(3).equals("" + got));
            calls++;
        }
        due.yes("some calls stand there: " + calls, calls >= 10);
    }

    private static Object answer(LampRound village, String name, String numbers) throws Exception {
        String[] told = numbers.isEmpty() ? new String[0] : numbers.split(", ");
        Object[] given = new Object[told.length];
        for (int i = 0; i < told.length; i++) {
            boolean truth = told[i].equals("true") || told[i].equals("false");
            given[i] = truth ? (Object) told[i].equals("true") : (Object) Long.decode(told[i]).intValue();
        }
        for (Method m : LampRound.class.getMethods()) if (m.getName().equals(name)) return m.invoke(village, given);
        return "no such call";
    }
}
