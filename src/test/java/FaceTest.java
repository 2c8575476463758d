import java.io.IOException;
import java.lang.reflect.Constructor;
import java.lang.reflect.Field;
import java.lang.reflect.Member;
import java.lang.reflect.Method;
import java.lang.reflect.Modifier;
import java.nio.file.Files;
import java.nio.file.Path;
import java.util.Arrays;
import java.util.Set;
import java.util.TreeSet;

/** The class shows the document's face and no more, and keeps to what LANGUAGE.md leaves. */
public final class FaceTest {
    private static final String[] FACE = {
        "public TextPatterns()",
        "public int TextPatterns.capture(int,int)",
        "public int TextPatterns.captures()",
        "public int TextPatterns.clear(int)",
        "public int TextPatterns.find(int)",
        "public int TextPatterns.first()",
        "public int TextPatterns.last()",
        "public int TextPatterns.looks()",
        "public int TextPatterns.next()",
        "public int TextPatterns.replace(int)",
        "public int TextPatterns.result(int)",
        "public int TextPatterns.single(int)",
        "public int TextPatterns.size()",
        "public int TextPatterns.type(int,long,int)",
        "public static final int TextPatterns.BAD",
        "public static final int TextPatterns.FULL",
        "public static final int TextPatterns.LONG",
        "public static final int TextPatterns.WRONG",
        "public void TextPatterns.begin()"
    };
    private static final String[] RULED_OUT = {
        "import ", "throw", "catch", "finally", "try ", "synchronized", "assert", "static {",
        "->", "::", "System.", "Exact", "hashCode", "double", "float"
    };

    private final Checks checks = new Checks();

    public static void main(String[] args) throws IOException {
        FaceTest test = new FaceTest();
        test.face();
        test.constants();
        test.classesInside();
        test.words();
        test.checks.end();
    }

    private void face() {
        Set<String> seen = new TreeSet<>();
        for (Constructor<?> c : TextPatterns.class.getDeclaredConstructors()) {
            addShown(seen, c, c.toString());
        }
        for (Method m : TextPatterns.class.getDeclaredMethods()) {
            addShown(seen, m, m.toString());
        }
        for (Field f : TextPatterns.class.getDeclaredFields()) {
            addShown(seen, f, f.toString());
        }
        checks.due("the face", seen.toString(), new TreeSet<>(Arrays.asList(FACE)).toString());
        int modifiers = TextPatterns.class.getModifiers();
        checks.due("public final class", Modifier.toString(modifiers), "public final");
    }

    private static void addShown(Set<String> seen, Member member, String line) {
        if (!Modifier.isPrivate(member.getModifiers()) && !member.isSynthetic()) {
            seen.add(line);
        }
    }

    private void constants() {
        checks.due("BAD", TextPatterns.BAD, -1);
        checks.due("WRONG", TextPatterns.WRONG, -2);
        checks.due("FULL", TextPatterns.FULL, -3);
        checks.due("LONG", TextPatterns.LONG, -4);
    }

    private void classesInside() {
        Set<String> faceNames = new TreeSet<>();
        for (Method m : TextPatterns.class.getMethods()) {
            faceNames.add(m.getName());
        }
        for (Class<?> inside : TextPatterns.class.getDeclaredClasses()) {
            String modifiers = Modifier.toString(inside.getModifiers());
            checks.due(inside.getName(), modifiers, "private static final");
            for (Method m : inside.getDeclaredMethods()) {
                boolean twice = Modifier.isPrivate(m.getModifiers())
                    && faceNames.contains(m.getName());
                checks.due("private with a public name: " + m, twice ? 1 : 0, 0);
                checks.due("seven parameters: " + m, m.getParameterCount() <= 7 ? 1 : 0, 1);
            }
            for (Field f : inside.getDeclaredFields()) {
                checks.due("static in " + f, Modifier.isStatic(f.getModifiers()) ? 1 : 0, 0);
            }
        }
        for (Field f : TextPatterns.class.getDeclaredFields()) {
            boolean loose = Modifier.isStatic(f.getModifiers())
                && !Modifier.isFinal(f.getModifiers());
            checks.due("static and not final: " + f, loose ? 1 : 0, 0);
        }
    }

    private void words() throws IOException {
        String source = Files.readString(Path.of("src/main/java/TextPatterns.java"));
        for (String word : RULED_OUT) {
            checks.due("word ruled out: " + word, source.contains(word) ? 1 : 0, 0);
        }
    }
}
