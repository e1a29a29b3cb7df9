import java.io.IOException;
import java.lang.reflect.Constructor;
import java.lang.reflect.Field;
import java.lang.reflect.Method;
import java.lang.reflect.Modifier;
import java.nio.file.Files;
import java.nio.file.Path;
import java.util.Set;
import java.util.TreeSet;

/** The face is the document's and no more, and the source keeps clear of what LANGUAGE.md leaves out. */
public final class FaceTest {
    private static final String FACE = "int feed(int,int,int,int,int)|int end(int)|int file()"
            + "|int put(int,int,int,int,int)|int remove(int)|int shift(int,int,int)|int bulk()|int graft(int,int)"
            + "|int drawn(int)|int draws(int)|int undo()|int keep(int)|int back(int)|int rect(int,int)"
            + "|int page(int,int)|int entry(int,int)|int choose(int,int,int,int)|int window(int,int,int,int,int)"
            + "|int nearest(int,int,int,int)|int pairs()|long union()|long grid(int)|int fill()|long cost(int,int)"
            + "|long overlap(int)|int same(int)|int count(int)";
    private static final String[] LEFT_OUT = {
        "try", "catch", "throw", "throws", "finally", "synchronized", "assert", "package", "protected", "lambda",
        "Float", "Double", "Object", "System.out", "System.nano", "System.current", "Random", "Thread", "record"};
    private static int wrong = 0;

    private static void wrong(String what) {
        wrong++;
        System.out.println(what);
    }

    private static String told(Method m) {
        StringBuilder b = new StringBuilder(m.getReturnType() + " " + m.getName() + "(");
        for (int i = 0; i < m.getParameterCount(); i++) {
            b.append(i == 0 ? "" : ",").append(m.getParameterTypes()[i]);
        }
        return b.append(')').toString();
    }

    private static void face() {
        Set<String> due = new TreeSet<>(Set.of(FACE.split("\\|")));
        Set<String> names = new TreeSet<>();
        Set<String> found = new TreeSet<>();
        for (Method m : RectFile.class.getDeclaredMethods()) {
            if (!Modifier.isPrivate(m.getModifiers())) {
                found.add(told(m));
                names.add(m.getName());
            }
        }
        if (!found.equals(due)) {
            wrong("the face is " + found);
        }
        for (Constructor<?> c : RectFile.class.getDeclaredConstructors()) {
            if (!Modifier.isPublic(c.getModifiers()) || c.getParameterCount() != 0) {
                wrong("constructor " + c);
            }
        }
        for (Field f : RectFile.class.getDeclaredFields()) {
            if (!Modifier.isPrivate(f.getModifiers()) && !f.getName().equals("NONE")) {
                wrong("field " + f);
            }
            if (Modifier.isStatic(f.getModifiers()) && !Modifier.isFinal(f.getModifiers())) {
                wrong("static state " + f);
            }
        }
        inner(names);
    }

    private static void inner(Set<String> faceNames) {
        Class<?>[] inner = RectFile.class.getDeclaredClasses();
        if (inner.length > 12) {
            wrong("too many classes: " + inner.length);
        }
        for (Class<?> c : inner) {
            if (!Modifier.isStatic(c.getModifiers())) {
                wrong("not static: " + c);
            }
            if (c.getDeclaredFields().length > 30) {
                wrong("too many fields: " + c);
            }
            for (Method m : c.getDeclaredMethods()) {
                if (faceNames.contains(m.getName())) {
                    wrong("a name of the face: " + m);
                }
                if (m.getParameterCount() > 7) {
                    wrong("too many parameters: " + m);
                }
            }
        }
    }

    private static void source() throws IOException {
        String source = Files.readString(Path.of("src/main/java/RectFile.java"));
        String code = source.replaceAll("(?s)/\\*.*?\\*/", "").replaceAll("//[^\n]*", "");
        for (String word : LEFT_OUT) {
            if (java.util.regex.Pattern.compile("\\b" + word + "\\b").matcher(code).find()) {
                wrong("the source has " + word);
            }
        }
        if (code.contains("->") || code.contains("::") || code.contains("Exact")) {
            wrong("the source has a lambda, a method reference or an exact function");
        }
        for (String line : code.split("\n")) {
            if (line.startsWith("import") && !line.equals("import java.util.Arrays;")) {
                wrong(line);
            }
        }
    }

    public static void main(String[] args) throws IOException {
        face();
        source();
        System.out.println(wrong == 0 ? "face: as due" : "face: " + wrong + " wrong");
        if (wrong != 0) {
            System.exit(1);
        }
    }
}
