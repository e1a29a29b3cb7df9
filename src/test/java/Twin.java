import java.lang.management.ManagementFactory;
import java.lang.reflect.Method;
import java.util.Arrays;
import java.util.List;

/** A RectFile and a PlainFile that get the same calls: an answer that is not alike is wrong. */
final class Twin {
    static final List<String> NAMES = List.of("feed", "end", "file", "put", "remove", "shift", "bulk", "graft", "drawn",
            "draws", "undo", "keep", "back", "rect", "page", "entry", "choose", "window", "nearest", "pairs", "union",
            "grid", "fill", "cost", "overlap", "same", "count");
    private static final Method[] REAL = methodsOf(RectFile.class);
    private static final Method[] PLAIN = methodsOf(PlainFile.class);

    final RectFile real = new RectFile();
    final PlainFile plain = new PlainFile();
    int calls = 0;
    /** What the calls of the RectFile have allocated, with the little that it takes to make them here. */
    long bytes = 0;

    private static Method[] methodsOf(Class<?> which) {
        Method[] methods = new Method[NAMES.size()];
        for (Method m : which.getDeclaredMethods()) {
            int kind = NAMES.indexOf(m.getName());
            // PlainFile has helpers of like names, over arrays.
            if (kind >= 0 && Arrays.stream(m.getParameterTypes()).allMatch(int.class::equals)) {
                methods[kind] = m;
            }
        }
        return methods;
    }

    static long allocated() {
        com.sun.management.ThreadMXBean bean = (com.sun.management.ThreadMXBean) ManagementFactory.getThreadMXBean();
        return bean.getThreadAllocatedBytes(Thread.currentThread().getId());
    }

    private static String answer(Object file, Method method, int[] from) {
        Object[] a = new Object[method.getParameterCount()];
        for (int i = 0; i < a.length; i++) {
            a[i] = from[i];
        }
        try {
            return method.invoke(file, a).toString();
        } catch (ReflectiveOperationException e) {
            return "threw " + e.getCause();
        }
    }

    void call(String name, int... a) {
        calls++;
        int kind = NAMES.indexOf(name);
        long before = allocated();
        String got = answer(real, REAL[kind], a);
        bytes += allocated() - before;
        Checks.dueText("call " + calls + ", " + name + Arrays.toString(a), got, answer(plain, PLAIN[kind], a));
    }

    /** The RectFile alone is called: what it answers is free, but it must not throw. */
    void callFreely(String name, int... a) {
        calls++;
        String got = answer(real, REAL[NAMES.indexOf(name)], a);
        if (got.startsWith("threw")) {
            Checks.tellWrong("call " + calls + ", " + name + Arrays.toString(a) + " " + got);
        }
    }

    /** A text is fed, with blanks behind it, and told. */
    void tell(String text) {
        call("end", 0);
        for (int i = 0; i < text.length(); i += 20) {
            int[] n = new int[5];
            for (int j = 0; j < 20; j++) {
                n[j / 4] = n[j / 4] << 8 | (i + j < text.length() ? text.charAt(i + j) : ' ');
            }
            call("feed", n);
        }
        call("file");
    }
}
