import java.io.IOException;
import java.lang.reflect.Field;
import java.lang.reflect.Method;
import java.lang.reflect.Modifier;
import java.nio.file.Files;
import java.nio.file.Path;
import java.util.ArrayList;
import java.util.Arrays;
import java.util.List;
import java.util.Set;
import java.util.TreeSet;
import java.util.regex.Matcher;
import java.util.regex.Pattern;
import java.util.stream.Collectors;

/** The public face of the document, and the rules of LANGUAGE.md that can be looked at. */
public final class FaceTest {
    private static final Path SOURCE = Path.of("src/main/java/CutDesk.java");
    private static final Path DOCUMENT = Path.of("../shared/DOC.md");
    private static final Pattern METHOD_OF_FACE =
            Pattern.compile("    public (\\w+) (\\w+)\\(([^)]*)\\)(?: throws ([\\w, ]+))?;");
    private static final String[] RULED_OUT = {
        "->", "::", "\\bcatch\\b", "\\bfinally\\b", "\\bassert\\b", "\\bsynchronized\\b", "\\bvar\\b",
        "\\bstatic \\{", "Exact\\(", "\" \\+", "\\+ \"", "\\bprotected\\b", "\\bSystem\\.(?!arraycopy)",
        "\\bequals\\b", "\\bhashCode\\b", "\\btoString\\b", "\\bwhile\\b"};

    private static final Check check = new Check();

    public static void main(String[] args) throws IOException {
        methods();
        fieldsAndConstructors();
        classesInside();
        source();
        check.end();
    }

    private static void methods() throws IOException {
        Set<String> shown = new TreeSet<>();
        Set<String> names = new TreeSet<>();
        for (Method m : CutDesk.class.getDeclaredMethods()) {
            if (!Modifier.isPrivate(m.getModifiers())) {
                check.isTrue(m + " is public and of the object",
                        Modifier.isPublic(m.getModifiers()) && !Modifier.isStatic(m.getModifiers()));
                shown.add(shortForm(m));
                names.add(m.getName());
            }
        }
        check.same("the methods", shown.toString(), faceOfTheDocument().toString());
        List<Class<?>> all = new ArrayList<>(List.of(CutDesk.class.getDeclaredClasses()));
        all.add(CutDesk.class);
        for (Class<?> c : all) {
            for (Method m : c.getDeclaredMethods()) {
                boolean ofFace = c == CutDesk.class && Modifier.isPublic(m.getModifiers());
                check.isTrue(m + " bears no name of the face", ofFace || !names.contains(m.getName()));
                check.isTrue(m + " takes at most seven", m.getParameterCount() <= 7);
            }
        }
    }

    /** Each method of the document's face, without the names of what it takes. */
    private static Set<String> faceOfTheDocument() throws IOException {
        Set<String> face = new TreeSet<>();
        for (String line : Files.readAllLines(DOCUMENT)) {
            Matcher m = METHOD_OF_FACE.matcher(line);
            if (m.matches()) {
                String types = m.group(3).replaceAll(" \\w+(?=,|$)", "");
                face.add(m.group(1) + " " + m.group(2) + "(" + types + ") throws " + m.group(4));
            }
        }
        check.same("methods of the document", face.size(), 27);
        return face;
    }

    private static String shortForm(Method m) {
        String thrown = m.getExceptionTypes().length == 0 ? "null" : names(m.getExceptionTypes());
        return m.getReturnType() + " " + m.getName() + "(" + names(m.getParameterTypes()) + ") throws " + thrown;
    }

    private static String names(Class<?>[] types) {
        return Arrays.stream(types).map(Class::getSimpleName).collect(Collectors.joining(", "));
    }

    private static void fieldsAndConstructors() {
        check.isTrue("public and final", Modifier.isPublic(CutDesk.class.getModifiers())
                && Modifier.isFinal(CutDesk.class.getModifiers()));
        check.same("NONE", CutDesk.NONE, -1);
        check.same("constructors", CutDesk.class.getDeclaredConstructors().length, 1);
        check.same("public constructors", CutDesk.class.getConstructors().length, 1);
        for (Field f : CutDesk.class.getDeclaredFields()) {
            boolean isPrivate = Modifier.isPrivate(f.getModifiers());
            check.isTrue(f + " is private, or NONE",
                    isPrivate || f.toString().equals("public static final int CutDesk.NONE"));
            check.isTrue(f + " is final if static",
                    !Modifier.isStatic(f.getModifiers()) || Modifier.isFinal(f.getModifiers()));
        }
    }

    private static void classesInside() {
        Class<?>[] inside = CutDesk.class.getDeclaredClasses();
        check.isTrue("at most twelve classes", inside.length < 12);
        for (Class<?> c : inside) {
            check.isTrue(c + " is static and private",
                    Modifier.isStatic(c.getModifiers()) && Modifier.isPrivate(c.getModifiers()));
            check.isTrue(c + " has at most twenty fields", c.getDeclaredFields().length <= 20);
        }
    }

    private static void source() throws IOException {
        String text = Files.readString(SOURCE);
        check.isTrue("signs up to 126", text.chars().allMatch(c -> c == 10 || c >= 32 && c <= 126));
        String code = text.replaceAll("(?s)/\\*.*?\\*/", "").replaceAll("//.*", "");
        for (String word : RULED_OUT) {
            Matcher found = Pattern.compile(word).matcher(code);
            check.isFalse("the source has " + word, found.find());
        }
        for (String line : code.split("\n")) {
            if (line.startsWith("import")) {
                check.isTrue(line, line.equals("import java.util.Arrays;")
                        || line.equals("import java.util.NoSuchElementException;"));
            }
        }
        check.isTrue("short methods", longestMethod(code) <= 60);
    }

    /** Lines of the longest method, from a line that could begin one to the brace of the same indent. */
    private static int longestMethod(String code) {
        String[] lines = code.split("\n");
        Pattern begin = Pattern.compile("( {4}| {8})(?!if|for|switch|return|throw|else)[a-z][\\w \\[\\]]*\\([^;]*");
        int longest = 0;
        for (int k = 0; k < lines.length; k++) {
            Matcher m = begin.matcher(lines[k]);
            if (m.matches()) {
                int end = k;
                while (end < lines.length - 1 && !lines[end].equals(m.group(1) + "}")) {
                    end++;
                }
                longest = Math.max(longest, end - k + 1);
            }
        }
        check.isTrue("methods were found", longest > 5);
        return longest;
    }
}
