import java.io.DataInputStream;
import java.io.IOException;
import java.io.InputStream;
import java.lang.reflect.Constructor;
import java.lang.reflect.Field;
import java.lang.reflect.Method;
import java.lang.reflect.Modifier;
import java.nio.charset.StandardCharsets;
import java.nio.file.Files;
import java.nio.file.Path;
import java.util.ArrayList;
import java.util.List;
import java.util.Set;
import java.util.TreeSet;
import java.util.regex.Matcher;
import java.util.regex.Pattern;

/** The public face, and the rules of LANGUAGE.md that can be seen from outside. */
public final class LanguageTest {
    private static final String FACE = "state(int)int house(int,int,int)int set(int,int,int)boolean "
        + "friends(int,int,boolean)boolean feed(int,int,int,int,int)int end(int)boolean text(int)int fault(int)int "
        + "nights(int)int of(int,int)int far(int,int)int need(int,int)int book(int,int)int run(int,int)int "
        + "plan(int,int)int mend(int)int rooms(int)int sale(int)int liars()int sure(int,int,int)int best(int,int)int "
        + "clue(int,int)int ways(int)long been(int,int)int ask(int,int)int undo()boolean image(boolean)boolean look(int)int";
    private static final Set<String> LIBRARY = Set.of("java/lang/Object.<init>", "java/lang/System.arraycopy",
        "java/lang/String.length", "java/lang/String.charAt", "java/lang/String.indexOf", "java/lang/Math.max",
        "java/lang/Math.min", "java/lang/Math.abs");
    private static final int LONGEST_METHOD = 60;

    private static final List<String> wrong = new ArrayList<>();

    public static void main(String[] args) throws IOException {
        List<Class<?>> classes = new ArrayList<>(List.of(LampRound.class));
        classes.addAll(List.of(LampRound.class.getDeclaredClasses()));
        face();
        documentsFace();
        if (classes.size() > 12) wrong.add("more than twelve classes: " + classes.size());
        for (Class<?> c : classes) {
            members(c);
            pool(c);
        }
        String source = Files.readString(Path.of("src/main/java/LampRound.java"), StandardCharsets.ISO_8859_1);
        source(source);
        lengths(source);
        for (String w : wrong) System.out.println("LanguageTest: " + w);
        System.out.println(wrong.isEmpty() ? "the rules are kept" : wrong.size() + " rules are not kept");
        if (!wrong.isEmpty()) System.exit(1);
    }

    private static String types(Class<?>[] types) {
        StringBuilder s = new StringBuilder();
        for (Class<?> t : types) s.append(s.length() > 0 ? "," : "").append(t.getName());
        return s.toString();
    }

    private static void face() {
        Set<String> due = new TreeSet<>(List.of(FACE.split(" ")));
        Set<String> got = new TreeSet<>();
        for (Method m : LampRound.class.getDeclaredMethods()) {
            if (Modifier.isPublic(m.getModifiers())) {
                got.add(m.getName() + "(" + types(m.getParameterTypes()) + ")" + m.getReturnType().getName());
                if (Modifier.isStatic(m.getModifiers())) wrong.add(m + " is static");
            } else if (!Modifier.isPrivate(m.getModifiers())) {
                wrong.add(m + " is neither public nor private");
            }
        }
        if (!due.equals(got)) wrong.add("the face is " + got + ", due is " + due);
        for (Field f : LampRound.class.getDeclaredFields()) {
            boolean none = f.getName().equals("NONE") && Modifier.isPublic(f.getModifiers());
            if (!none && !Modifier.isPrivate(f.getModifiers())) wrong.add(f + " is not private");
        }
        Constructor<?>[] made = LampRound.class.getDeclaredConstructors();
        if (made.length != 1 || made[0].getParameterCount() != 0 || !Modifier.isPublic(made[0].getModifiers()))
            wrong.add("the constructors");
        int flags = LampRound.class.getModifiers();
        if (!Modifier.isPublic(flags) || !Modifier.isFinal(flags)) wrong.add("the class is not public and final");
    }

    /** The face that is looked for here is DOC.md's own. */
    private static void documentsFace() throws IOException {
        Path doc = Path.of("../shared/DOC.md");
        if (!Files.isReadable(doc)) {
            System.out.println("no " + doc + ": its face is not compared");
            return;
        }
        Set<String> due = new TreeSet<>();
        Matcher method = Pattern.compile("(?m)^    public (\\w+) (\\w+)\\((.*)\\);$").matcher(Files.readString(doc));
        while (method.find()) {
            String types = method.group(3).replaceAll(" \\w+(,|$)", "$1").replace(" ", "");
            due.add(method.group(2) + "(" + types + ")" + method.group(1));
        }
        if (!due.equals(new TreeSet<>(List.of(FACE.split(" "))))) wrong.add("DOC.md's face is " + due);
    }

    private static void members(Class<?> c) {
        int flags = c.getModifiers();
        boolean nested = c != LampRound.class;
        if (nested && (!Modifier.isStatic(flags) || Modifier.isPublic(flags) || Modifier.isProtected(flags)))
            wrong.add(c + " is not a plain static class");
        int fields = 0;
        for (Field f : c.getDeclaredFields()) {
            if (f.isSynthetic()) wrong.add(f + " is not written out");
            if (!Modifier.isStatic(f.getModifiers())) fields++;
            else if (!Modifier.isFinal(f.getModifiers())) wrong.add(f + " is static and not final");
        }
        if (fields > 20) wrong.add(c + " has " + fields + " fields");
        for (Method m : c.getDeclaredMethods()) {
            if (m.getParameterCount() > 7) wrong.add(m + " has more than seven parameters");
            if (m.isSynthetic()) wrong.add(m + " is not written out");
            boolean hidden = nested || Modifier.isPrivate(m.getModifiers());
            if (hidden && (" " + FACE).contains(" " + m.getName() + "(")) wrong.add(m + " bears a public name");
        }
    }

    /** What the compiled class calls: no library but what LANGUAGE.md lists, and nothing made at run time. */
    private static void pool(Class<?> c) throws IOException {
        String name = c.getName();
        try (InputStream raw = c.getResourceAsStream("/" + name + ".class"); DataInputStream in = new DataInputStream(raw)) {
            in.readInt();
            in.readInt();
            int n = in.readUnsignedShort();
            Object[] entry = new Object[n];
            for (int i = 1; i < n; i++) {
                int tag = in.readUnsignedByte();
                switch (tag) {
                    case 1: entry[i] = in.readUTF(); break;
                    case 3: case 4: in.readInt(); break;
                    case 5: case 6: in.readLong(); i++; break;
                    case 7: case 8: case 16: case 19: case 20: entry[i] = new int[] {tag, in.readUnsignedShort()}; break;
                    case 15: in.readUnsignedByte(); in.readUnsignedShort(); wrong.add(name + " has a method handle"); break;
                    case 17: case 18: in.readInt(); wrong.add(name + " makes code at run time"); break;
                    default: entry[i] = new int[] {tag, in.readUnsignedShort(), in.readUnsignedShort()};
                }
            }
            for (Object o : entry) if (o instanceof int[] e && (e[0] == 10 || e[0] == 11)) called(name, entry, e);
        }
    }

    private static void called(String name, Object[] entry, int[] method) {
        String owner = (String) entry[((int[]) entry[method[1]])[1]];
        String called = (String) entry[((int[]) entry[method[2]])[1]];
        boolean own = owner.equals("LampRound") || owner.startsWith("LampRound$");
        if (!own && !LIBRARY.contains(owner + "." + called)) wrong.add(name + " calls " + owner + "." + called);
    }

    private static void source(String source) {
        for (int i = 0; i < source.length(); i++) {
            char c = source.charAt(i);
            if (c != '\n' && (c < 32 || c > 126)) {
                wrong.add("a sign beyond 32 .. 126 at " + i);
                break;
            }
        }
        String code = source.replaceAll("(?s)/\\*.*?\\*/", "").replaceAll("//[^\n]*", "").replaceAll("\"[^\"\n]*\"", "\"\"");
        String[] never = {"throw", "throws", "try", "catch", "finally", "synchronized", "assert", "import", "package",
            "volatile", "native", "strictfp", "protected", "double", "float", "instanceof", "super", "record", "enum", "var"};
        for (String word : never)
            if (Pattern.compile("\\b" + word + "\\b").matcher(code).find()) wrong.add("the word " + word);
        for (String sign : new String[] {"->", "::", "@"}) if (code.contains(sign)) wrong.add("the sign " + sign);
        Matcher loop = Pattern.compile("while \\((true|1)|for \\(;;").matcher(code);
        if (loop.find()) wrong.add("a loop without an end");
    }

    private static void lengths(String source) {
        String[] lines = source.split("\n");
        for (int i = 0; i < lines.length; i++) {
            Matcher head = Pattern.compile("^( {4}| {8})[A-Za-z].*\\) \\{$").matcher(lines[i]);
            if (!head.find() || lines[i].contains(" class ")) continue;
            int end = i;
            while (end < lines.length && !lines[end].equals(head.group(1) + "}")) end++;
            if (end - i + 1 > LONGEST_METHOD) wrong.add("from line " + (i + 1) + " a method of " + (end - i + 1) + " lines");
            if (lines[i].length() > 120) wrong.add("line " + (i + 1) + " is too long");
        }
    }
}
