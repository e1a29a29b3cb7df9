import java.lang.reflect.Constructor;
import java.lang.reflect.Field;
import java.lang.reflect.Method;
import java.lang.reflect.Modifier;
import java.util.Set;
import java.util.TreeSet;

/** The face is the document's and no more; RulesTest looks at the rest of LANGUAGE.md. */
public final class FaceTest {
    private static final String FACE = "int feed(int,int,int,int,int)|int end(int)|int file()"
            + "|int put(int,int,int,int,int)|int remove(int)|int shift(int,int,int)|int bulk()|int graft(int,int)"
            + "|int drawn(int)|int draws(int)|int undo()|int keep(int)|int back(int)|int rect(int,int)"
            + "|int page(int,int)|int entry(int,int)|int choose(int,int,int,int)|int window(int,int,int,int,int)"
            + "|int nearest(int,int,int,int)|int pairs()|long union()|long grid(int)|int fill()|long cost(int,int)"
            + "|long overlap(int)|int same(int)|int count(int)";
    private static int wrong = 0;

    private static void wrong(String what) {
        wrong++;
        System.out.println(what);
    }

    private static String told(Method m) {
        StringBuilder b = new StringBuilder(m.getReturnType() + " " + m.getName() + "(");
        for (int i = 0; i < m.getParameterCount(); i++) {
            b.append(i == 0 ? "" : ",").append(m.getParameterTypes()[i]);
        }
        return b.append(')').toString();
    }

    private static void face() {
        Set<String> due = new TreeSet<>(Set.of(FACE.split("\\|")));
        Set<String> names = new TreeSet<>();
        Set<String> found = new TreeSet<>();
        for (Method m : RectFile.class.getDeclaredMethods()) {
            if (!Modifier.isPrivate(m.getModifiers())) {
                found.add((Modifier.isPublic(m.getModifiers()) ? "" : "hidden ") + told(m));
                names.add(m.getName());
            }
        }
        if (!found.equals(due)) {
            wrong("the face is " + found);
        }
        for (Constructor<?> c : RectFile.class.getDeclaredConstructors()) {
            if (!Modifier.isPublic(c.getModifiers()) || c.getParameterCount() != 0) {
                wrong("constructor " + c);
            }
        }
        for (Field f : RectFile.class.getDeclaredFields()) {
            if (!Modifier.isPrivate(f.getModifiers()) && !f.getName().equals("NONE")) {
                wrong("field " + f);
            }
            if (Modifier.isStatic(f.getModifiers()) && !Modifier.isFinal(f.getModifiers())) {
                wrong("static state " + f);
            }
        }
        checkNames(names);
    }

    private static void checkNames(Set<String> faceNames) {
        for (Method m : RectFile.class.getDeclaredMethods()) {
            if (Modifier.isPrivate(m.getModifiers()) && faceNames.contains(m.getName())) {
                wrong("a name of the face: " + m);
            }
        }
        for (Class<?> c : RectFile.class.getDeclaredClasses()) {
            for (Method m : c.getDeclaredMethods()) {
                if (faceNames.contains(m.getName())) {
                    wrong("a name of the face: " + m);
                }
            }
        }
    }

    public static void main(String[] args) {
        face();
        System.out.println(wrong == 0 ? "face: as due" : "face: " + wrong + " wrong");
        if (wrong != 0) {
            System.exit(1);
        }
    }
}
