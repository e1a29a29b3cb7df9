import java.util.ArrayList;
import java.util.HashSet;
import java.util.List;
import java.util.Set;
import java.util.regex.Matcher;
import java.util.regex.Pattern;

/** The text of a file told once more: cut into tokens first, then looked at. */
final class PlainText {
    private static final Pattern WORD = Pattern.compile("[a-z]+");
    private static final Pattern UNSIGNED = Pattern.compile("[0-9]+");
    private static final Pattern SIGNED = Pattern.compile("-?[0-9]+");
    private static final Pattern BLANKS = Pattern.compile(" *");

    final List<Integer> numbers = new ArrayList<>();
    private final String text;
    private final Set<Integer> ids = new HashSet<>();
    private int at = 0;
    private int from = 0;

    private static final class Wrong extends RuntimeException {
        private static final long serialVersionUID = 1L;
        final int fault;

        Wrong(int place, int kind) {
            fault = 8 * place + kind;
        }
    }

    PlainText(String text) {
        this.text = text;
    }

    int fault() {
        try {
            read();
            return 0;
        } catch (Wrong w) {
            return w.fault;
        }
    }

    private void blanks() {
        Matcher m = BLANKS.matcher(text).region(at, text.length());
        m.lookingAt();
        at = m.end();
    }

    private String next(Pattern kind) {
        blanks();
        from = at;
        Matcher m = kind.matcher(text).region(at, text.length());
        if (!m.lookingAt()) {
            int place = kind == SIGNED && text.startsWith("-", at) ? at + 1 : at;
            throw new Wrong(place, 1);
        }
        at = m.end();
        return m.group();
    }

    private void word(String w) {
        if (!next(WORD).equals(w)) {
            throw new Wrong(from, 1);
        }
    }

    private int number(Pattern kind, int low, int high) {
        java.math.BigInteger n = new java.math.BigInteger(next(kind));
        if (n.compareTo(java.math.BigInteger.valueOf(low)) < 0 || n.compareTo(java.math.BigInteger.valueOf(high)) > 0) {
            throw new Wrong(from, 2);
        }
        numbers.add(n.intValue());
        return n.intValue();
    }

    private void read() {
        word("page");
        int most = number(UNSIGNED, 3, 8);
        int least = number(UNSIGNED, 1, 4);
        if (2 * least > most) {
            throw new Wrong(from, 2);
        }
        int p = number(UNSIGNED, 1, 3);
        if (most + 1 - p < least) {
            throw new Wrong(from, 2);
        }
        blanks();
        while (at < text.length()) {
            if (text.charAt(at) != ';') {
                throw new Wrong(at, 1);
            }
            at++;
            word("rect");
            if (ids.size() == 20) {
                throw new Wrong(from, 3);
            }
            if (!ids.add(number(UNSIGNED, 0, 99))) {
                throw new Wrong(from, 3);
            }
            int x1 = number(SIGNED, -1000, 1000);
            int y1 = number(SIGNED, -1000, 1000);
            if (number(SIGNED, -1000, 1000) < x1) {
                throw new Wrong(from, 2);
            }
            if (number(SIGNED, -1000, 1000) < y1) {
                throw new Wrong(from, 2);
            }
            blanks();
        }
    }
}
