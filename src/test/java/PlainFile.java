import java.util.ArrayList;
import java.util.Arrays;
import java.util.Collections;
import java.util.Comparator;
import java.util.HashSet;
import java.util.List;
import java.util.Set;
import java.util.TreeMap;

/**
 * The document told once more, as plainly as can be: objects for pages, boxes measured anew each time, recursion.
 * RandomRunsTest holds RectFile against it.
 */
final class PlainFile {
    static final class Thing {
        int id = -1;
        int level;
        int x1, y1, x2, y2;
        List<Thing> entries;

        boolean isRect() {
            return entries == null;
        }

        int[] box() {
            if (isRect()) {
                return new int[] {x1, y1, x2, y2};
            }
            int[] box = null;
            for (Thing e : entries) {
                box = box == null ? e.box() : both(box, e.box());
            }
            return box;
        }

        Thing copy() {
            Thing c = new Thing();
            c.id = id;
            c.level = level;
            c.x1 = x1;
            c.y1 = y1;
            c.x2 = x2;
            c.y2 = y2;
            if (entries != null) {
                c.entries = new ArrayList<>();
                for (Thing e : entries) {
                    c.entries.add(e.copy());
                }
            }
            return c;
        }

        String told() {
            if (isRect()) {
                return id + ":" + Arrays.toString(box());
            }
            StringBuilder b = new StringBuilder("L" + level + "(");
            for (Thing e : entries) {
                b.append(e.told()).append(' ');
            }
            return b.append(')').toString();
        }
    }

    static final class State {
        int M, m, p, splits, reinserts;
        long x;
        Thing root;

        State copy() {
            State s = new State();
            s.M = M;
            s.m = m;
            s.p = p;
            s.splits = splits;
            s.reinserts = reinserts;
            s.x = x;
            s.root = root.copy();
            return s;
        }
    }

    private static final int NONE = -1;
    private static final int MIN = Integer.MIN_VALUE;

    private final StringBuilder tape = new StringBuilder();
    private State s;
    private long x = 0;
    private final List<State> past = new ArrayList<>();
    private final State[] shelves = new State[2];
    private Set<Integer> reinserted;

    // ---- boxes

    static int[] both(int[] a, int[] b) {
        return new int[] {Math.min(a[0], b[0]), Math.min(a[1], b[1]), Math.max(a[2], b[2]), Math.max(a[3], b[3])};
    }

    static long area(int[] a) {
        return (long) (a[2] - a[0]) * (a[3] - a[1]);
    }

    static long overlap(int[] a, int[] b) {
        long w = (long) Math.min(a[2], b[2]) - Math.max(a[0], b[0]);
        long h = (long) Math.min(a[3], b[3]) - Math.max(a[1], b[1]);
        return w > 0 && h > 0 ? w * h : 0;
    }

    static boolean meet(int[] a, int[] b) {
        return Math.max(a[0], b[0]) <= Math.min(a[2], b[2]) && Math.max(a[1], b[1]) <= Math.min(a[3], b[3]);
    }

    static int far(int[] a, int x, int y) {
        int dx = x < a[0] ? a[0] - x : x > a[2] ? x - a[2] : 0;
        int dy = y < a[1] ? a[1] - y : y > a[3] ? y - a[3] : 0;
        return dx * dx + dy * dy;
    }

    static int[] around(List<Thing> things) {
        int[] box = things.get(0).box();
        for (Thing t : things) {
            box = both(box, t.box());
        }
        return box;
    }

    // ---- the tree looked at

    private List<Thing> pages() {
        List<Thing> all = new ArrayList<>();
        number(s.root, all);
        return all;
    }

    private void number(Thing page, List<Thing> all) {
        all.add(page);
        for (Thing e : page.entries) {
            if (!e.isRect()) {
                number(e, all);
            }
        }
    }

    private TreeMap<Integer, Thing> rects() {
        TreeMap<Integer, Thing> all = new TreeMap<>();
        for (Thing page : pages()) {
            for (Thing e : page.entries) {
                if (e.isRect()) {
                    all.put(e.id, e);
                }
            }
        }
        return all;
    }

    private Thing parentOf(Thing thing) {
        for (Thing page : pages()) {
            for (Thing e : page.entries) {
                if (e == thing) {
                    return page;
                }
            }
        }
        return null;
    }

    private int numberOf(Thing page) {
        List<Thing> all = pages();
        for (int i = 0; i < all.size(); i++) {
            if (all.get(i) == page) {
                return i;
            }
        }
        return NONE;
    }

    // ---- how an entry comes

    private Thing target(int[] box, int level) {
        Thing page = s.root;
        while (page.level > level) {
            Thing best = null;
            long[] bestKey = null;
            for (Thing e : page.entries) {
                int[] grown = both(e.box(), box);
                long more = 0;
                if (e.level == 0) {
                    for (Thing o : page.entries) {
                        if (o != e) {
                            more += overlap(grown, o.box()) - overlap(e.box(), o.box());
                        }
                    }
                }
                long[] key = {more, area(grown) - area(e.box()), area(e.box())};
                if (best == null || Arrays.compare(key, bestKey) < 0) {
                    best = e;
                    bestKey = key;
                }
            }
            page = best;
        }
        return page;
    }

    private void come(Thing entry, int level) {
        Thing page = target(entry.box(), level);
        page.entries.add(entry);
        tooFull(page);
    }

    private void tooFull(Thing page) {
        if (page.entries.size() <= s.M) {
            return;
        }
        if (page != s.root && reinserted.add(page.level)) {
            reinsert(page);
            return;
        }
        split(page);
    }

    private static long apart(int[] a, int[] b) {
        long dx = a[0] + a[2] - b[0] - b[2];
        long dy = a[1] + a[3] - b[1] - b[3];
        return dx * dx + dy * dy;
    }

    private void reinsert(Thing page) {
        s.reinserts++;
        int[] whole = page.box();
        List<Thing> row = new ArrayList<>(page.entries);
        row.sort(Comparator.comparingLong((Thing t) -> -apart(t.box(), whole)));
        List<Thing> out = new ArrayList<>(row.subList(0, s.p));
        page.entries.removeAll(out);
        Collections.reverse(out);
        for (Thing t : out) {
            come(t, page.level);
        }
    }

    private List<Thing> order(Thing page, int axis, boolean byLow) {
        List<Thing> row = new ArrayList<>(page.entries);
        int lead = byLow ? axis : axis + 2;
        int next = byLow ? axis + 2 : axis;
        row.sort(Comparator.comparingInt((Thing t) -> t.box()[lead]).thenComparingInt(t -> t.box()[next]));
        return row;
    }

    private static long margin(int[] a) {
        return a[2] - a[0] + a[3] - a[1];
    }

    private void split(Thing page) {
        s.splits++;
        long[] sums = new long[2];
        for (int axis = 0; axis < 2; axis++) {
            for (boolean byLow : new boolean[] {true, false}) {
                List<Thing> row = order(page, axis, byLow);
                for (int k = s.m; k <= s.M + 1 - s.m; k++) {
                    sums[axis] += margin(around(row.subList(0, k))) + margin(around(row.subList(k, row.size())));
                }
            }
        }
        int axis = sums[1] < sums[0] ? 1 : 0;
        long[] bestKey = null;
        List<Thing> bestRow = null;
        int bestK = 0;
        for (boolean byLow : new boolean[] {true, false}) {
            List<Thing> row = order(page, axis, byLow);
            for (int k = s.m; k <= s.M + 1 - s.m; k++) {
                int[] a = around(row.subList(0, k));
                int[] b = around(row.subList(k, row.size()));
                long[] key = {overlap(a, b), area(a) + area(b)};
                if (bestKey == null || Arrays.compare(key, bestKey) < 0) {
                    bestKey = key;
                    bestRow = row;
                    bestK = k;
                }
            }
        }
        Thing above = parentOf(page);
        Thing fresh = newPage(page.level);
        page.entries = new ArrayList<>(bestRow.subList(0, bestK));
        fresh.entries.addAll(bestRow.subList(bestK, bestRow.size()));
        if (above == null) {
            above = newPage(page.level + 1);
            above.entries.add(page);
            s.root = above;
        }
        above.entries.add(fresh);
        tooFull(above);
    }

    private static Thing newPage(int level) {
        Thing page = new Thing();
        page.level = level;
        page.entries = new ArrayList<>();
        return page;
    }

    // ---- acts

    private static Thing newRect(int id, int x1, int y1, int x2, int y2) {
        Thing r = new Thing();
        r.id = id;
        r.x1 = x1;
        r.y1 = y1;
        r.x2 = x2;
        r.y2 = y2;
        return r;
    }

    private void putRect(Thing r) {
        reinserted = new HashSet<>();
        come(r, 0);
    }

    private void takeRect(Thing r) {
        reinserted = new HashSet<>();
        Thing page = parentOf(r);
        page.entries.remove(r);
        List<Thing> gone = new ArrayList<>();
        while (page != s.root) {
            Thing above = parentOf(page);
            if (page.entries.size() < s.m) {
                above.entries.remove(page);
                gone.add(0, page);
            }
            page = above;
        }
        for (Thing out : gone) {
            for (Thing t : new ArrayList<>(out.entries)) {
                come(t, out.level);
            }
        }
        while (s.root.level > 0 && s.root.entries.size() == 1) {
            s.root = s.root.entries.get(0);
        }
    }

    private void remember() {
        s.x = x;
        past.add(s.copy());
        if (past.size() > 8) {
            past.remove(0);
        }
    }

    private int draw(int k) {
        x = (x * 1103515245L + 12345L) % 2147483648L;
        return (int) (x / 65536 % k);
    }

    private List<Thing> deal(List<Thing> row, int level) {
        List<Thing> pages = new ArrayList<>();
        for (Thing t : row) {
            if (pages.isEmpty() || pages.get(pages.size() - 1).entries.size() == s.M) {
                pages.add(newPage(level));
            }
            pages.get(pages.size() - 1).entries.add(t);
        }
        if (pages.isEmpty()) {
            pages.add(newPage(level));
        }
        if (pages.size() > 1) {
            Thing last = pages.get(pages.size() - 1);
            Thing ahead = pages.get(pages.size() - 2);
            while (last.entries.size() < s.m) {
                last.entries.add(0, ahead.entries.remove(ahead.entries.size() - 1));
            }
        }
        return pages;
    }

    // ---- the face

    int feed(int a, int b, int c, int d, int e) {
        if (tape.length() + 20 > 300) {
            return NONE;
        }
        for (int n : new int[] {a, b, c, d, e}) {
            for (int i = 3; i >= 0; i--) {
                tape.append((char) (n >>> 8 * i & 255));
            }
        }
        return tape.length();
    }

    int end(int n) {
        if (n < 0 || n > tape.length()) {
            return NONE;
        }
        tape.setLength(n);
        return n;
    }

    int file() {
        PlainText text = new PlainText(tape.toString());
        tape.setLength(0);
        int fault = text.fault();
        if (fault != 0) {
            return -2 - fault;
        }
        s = new State();
        s.M = text.numbers.get(0);
        s.m = text.numbers.get(1);
        s.p = text.numbers.get(2);
        s.root = newPage(0);
        past.clear();
        List<Integer> n = text.numbers;
        for (int i = 3; i < n.size(); i += 5) {
            putRect(newRect(n.get(i), n.get(i + 1), n.get(i + 2), n.get(i + 3), n.get(i + 4)));
        }
        return rects().size();
    }

    private static boolean within(int... v) {
        for (int i : v) {
            if (i < -1000 || i > 1000) {
                return false;
            }
        }
        return true;
    }

    int put(int id, int x1, int y1, int x2, int y2) {
        if (s == null || id < 0 || id > 99 || !within(x1, y1, x2, y2) || x1 > x2 || y1 > y2) {
            return NONE;
        }
        if (rects().containsKey(id)) {
            return -2;
        }
        remember();
        putRect(newRect(id, x1, y1, x2, y2));
        return pages().size();
    }

    int remove(int id) {
        if (s == null || !rects().containsKey(id)) {
            return NONE;
        }
        remember();
        takeRect(rects().get(id));
        return pages().size();
    }

    int shift(int id, int dx, int dy) {
        if (s == null || !rects().containsKey(id)) {
            return NONE;
        }
        Thing r = rects().get(id);
        if (Math.abs((long) dx) > 2000 || Math.abs((long) dy) > 2000
                || !within(r.x1 + dx, r.y1 + dy, r.x2 + dx, r.y2 + dy)) {
            return -2;
        }
        remember();
        takeRect(r);
        putRect(newRect(id, r.x1 + dx, r.y1 + dy, r.x2 + dx, r.y2 + dy));
        return pages().size();
    }

    int bulk() {
        if (s == null) {
            return NONE;
        }
        remember();
        List<Thing> row = new ArrayList<>(rects().values());
        Comparator<Thing> byX = Comparator.comparingInt((Thing t) -> t.x1 + t.x2);
        Comparator<Thing> byY = Comparator.comparingInt((Thing t) -> t.y1 + t.y2);
        Comparator<Thing> byId = Comparator.comparingInt((Thing t) -> t.id);
        row.sort(byX.thenComparing(byY).thenComparing(byId));
        int needed = Math.max(1, (int) Math.ceil(row.size() / (double) s.M));
        int slices = (int) Math.ceil(Math.sqrt(needed));
        for (int from = 0; from < row.size(); from += slices * s.M) {
            row.subList(from, Math.min(row.size(), from + slices * s.M))
                    .sort(byY.thenComparing(byX).thenComparing(byId));
        }
        List<Thing> level = deal(row, 0);
        for (int l = 1; level.size() > 1; l++) {
            level = deal(level, l);
        }
        s.root = level.get(0);
        return pages().size();
    }

    int graft(int page, int into) {
        if (s == null || page < 1 || into < 0 || page >= pages().size() || into >= pages().size()) {
            return NONE;
        }
        Thing moved = pages().get(page);
        Thing to = pages().get(into);
        Thing from = parentOf(moved);
        if (to.level == 0) {
            return -3;
        }
        if (to.level != moved.level + 1) {
            return -4;
        }
        if (to.entries.size() == s.M) {
            return -5;
        }
        if (from == to || from.entries.size() - 1 < (from == s.root ? 2 : s.m)) {
            return -6;
        }
        remember();
        moved = pages().get(page);
        from.entries.remove(moved);
        to.entries.add(moved);
        return to.entries.size();
    }

    int drawn(int n) {
        if (s == null || n < 1 || n > 20) {
            return NONE;
        }
        remember();
        int came = 0;
        for (int i = 0; i < n; i++) {
            int id = 0;
            while (rects().containsKey(id)) {
                id++;
            }
            if (id > 99) {
                continue;
            }
            int x1 = draw(1801) - 900;
            int y1 = draw(1801) - 900;
            int x2 = x1 + draw(101);
            int y2 = y1 + draw(101);
            putRect(newRect(id, x1, y1, x2, y2));
            came++;
        }
        return came;
    }

    int draws(int n) {
        if (n < 0) {
            return NONE;
        }
        int was = (int) x;
        x = n;
        return was;
    }

    int undo() {
        if (past.isEmpty()) {
            return NONE;
        }
        s = past.remove(past.size() - 1);
        x = s.x;
        return past.size();
    }

    int keep(int shelf) {
        if (s == null || shelf < 0 || shelf > 1) {
            return NONE;
        }
        shelves[shelf] = s.copy();
        return rects().size();
    }

    int back(int shelf) {
        if (shelf < 0 || shelf > 1) {
            return NONE;
        }
        if (shelves[shelf] == null) {
            return -2;
        }
        s = shelves[shelf].copy();
        past.clear();
        return rects().size();
    }

    int rect(int id, int what) {
        if (s == null || !rects().containsKey(id) || what < 0 || what > 4) {
            return MIN;
        }
        Thing r = rects().get(id);
        return what == 4 ? numberOf(parentOf(r)) : r.box()[what];
    }

    private static int rectsIn(Thing t) {
        int sum = 0;
        for (Thing e : t.entries) {
            sum += e.isRect() ? 1 : rectsIn(e);
        }
        return sum;
    }

    int page(int page, int what) {
        if (s == null || page < 0 || page >= pages().size() || what < 0 || what > 7) {
            return MIN;
        }
        Thing t = pages().get(page);
        if (what < 4) {
            return t.entries.isEmpty() ? MIN : t.box()[what];
        }
        return what == 4 ? t.level : what == 5 ? t.entries.size() : what == 6 ? numberOf(parentOf(t)) : rectsIn(t);
    }

    int entry(int page, int i) {
        if (s == null || page < 0 || page >= pages().size() || i < 0 || i >= pages().get(page).entries.size()) {
            return NONE;
        }
        Thing t = pages().get(page).entries.get(i);
        return t.isRect() ? t.id : numberOf(t);
    }

    int choose(int x1, int y1, int x2, int y2) {
        if (s == null || !within(x1, y1, x2, y2) || x1 > x2 || y1 > y2) {
            return NONE;
        }
        return numberOf(target(new int[] {x1, y1, x2, y2}, 0));
    }

    private int looked(Thing page, int[] w) {
        int sum = 1;
        for (Thing e : page.entries) {
            if (!e.isRect() && meet(e.box(), w)) {
                sum += looked(e, w);
            }
        }
        return sum;
    }

    int window(int x1, int y1, int x2, int y2, int k) {
        if (s == null || x1 > x2 || y1 > y2 || k < -2) {
            return NONE;
        }
        int[] w = {x1, y1, x2, y2};
        if (k == -2) {
            return looked(s.root, w);
        }
        List<Integer> met = new ArrayList<>();
        for (Thing r : rects().values()) {
            if (meet(r.box(), w)) {
                met.add(r.id);
            }
        }
        return k == -1 ? met.size() : k < met.size() ? met.get(k) : -3;
    }

    int nearest(int x, int y, int k, int what) {
        if (s == null || k < 0 || what < 0 || what > 2 || Math.abs((long) x) > 2000 || Math.abs((long) y) > 2000) {
            return NONE;
        }
        List<Thing> waiting = new ArrayList<>();
        waiting.add(s.root);
        int opened = 0;
        int found = 0;
        while (!waiting.isEmpty()) {
            List<Thing> row = new ArrayList<>(waiting);
            row.sort(Comparator.comparingInt((Thing t) -> t == s.root ? 0 : far(t.box(), x, y))
                    .thenComparingInt(t -> t.isRect() ? 1 : 0)
                    .thenComparingInt(t -> t.isRect() ? t.id : 0));
            Thing next = row.get(0);
            waiting.remove(next);
            if (!next.isRect()) {
                opened++;
                waiting.addAll(next.entries);
            } else if (found++ == k) {
                return what == 0 ? next.id : what == 1 ? far(next.box(), x, y) : opened;
            }
        }
        return -2;
    }

    int pairs() {
        if (s == null) {
            return NONE;
        }
        int sum = 0;
        for (Thing a : rects().values()) {
            for (Thing b : rects().values()) {
                sum += a.id < b.id && meet(a.box(), b.box()) ? 1 : 0;
            }
        }
        return sum;
    }

    long union() {
        if (s == null) {
            return NONE;
        }
        java.util.BitSet[] columns = new java.util.BitSet[2000];
        for (Thing r : rects().values()) {
            for (int cx = r.x1; cx < r.x2; cx++) {
                if (columns[cx + 1000] == null) {
                    columns[cx + 1000] = new java.util.BitSet();
                }
                columns[cx + 1000].set(r.y1 + 1000, r.y2 + 1000);
            }
        }
        long sum = 0;
        for (java.util.BitSet column : columns) {
            sum += column == null ? 0 : column.cardinality();
        }
        return sum;
    }

    long grid(int of) {
        if (s == null || of < 0 || of > 1) {
            return 0;
        }
        List<Thing> things = new ArrayList<>();
        if (of == 0) {
            things.addAll(rects().values());
        } else {
            for (Thing page : pages()) {
                if (page.level == 0 && !page.entries.isEmpty()) {
                    things.add(page);
                }
            }
        }
        long bits = 0;
        for (int sy = 0; sy < 8; sy++) {
            for (int sx = 0; sx < 8; sx++) {
                // All sides are whole numbers: the last whole number of a square stands for its open end.
                int[] square = {-1024 + 256 * sx, -1024 + 256 * sy, -1024 + 256 * sx + 255, -1024 + 256 * sy + 255};
                for (Thing t : things) {
                    if (meet(t.box(), square)) {
                        bits |= 1L << 8 * sy + sx;
                    }
                }
            }
        }
        return bits;
    }

    int fill() {
        if (s == null) {
            return NONE;
        }
        int entries = 0;
        for (Thing page : pages()) {
            entries += page.entries.size();
        }
        return Float.floatToIntBits((float) entries / (float) (s.M * pages().size()));
    }

    long cost(int w, int h) {
        if (s == null || w < 0 || w > 2000 || h < 0 || h > 2000) {
            return NONE;
        }
        double sum = 0.0;
        for (Thing page : pages()) {
            if (!page.entries.isEmpty()) {
                int[] b = page.box();
                sum += (double) (b[2] - b[0] + w) * (double) (b[3] - b[1] + h);
            }
        }
        return Double.doubleToLongBits(sum / 4000000.0);
    }

    long overlap(int level) {
        if (s == null || level < 0 || level > s.root.level) {
            return NONE;
        }
        List<Thing> all = pages();
        long sum = 0;
        for (int i = 0; i < all.size(); i++) {
            for (int j = i + 1; j < all.size(); j++) {
                if (all.get(i).level == level && all.get(j).level == level) {
                    sum += overlap(all.get(i).box(), all.get(j).box());
                }
            }
        }
        return sum;
    }

    int same(int shelf) {
        if (s == null || shelf < 0 || shelf > 1) {
            return NONE;
        }
        if (shelves[shelf] == null) {
            return -2;
        }
        return s.root.told().equals(shelves[shelf].root.told()) ? 1 : 0;
    }

    int count(int what) {
        if (what < 0 || what > 11) {
            return NONE;
        }
        if (what <= 7 && s == null) {
            return 0;
        }
        switch (what) {
            case 0:
                return rects().size();
            case 1:
                return pages().size();
            case 2:
                return s.root.level + 1;
            case 3:
                return s.M;
            case 4:
                return s.m;
            case 5:
                return s.p;
            case 6:
                return s.splits;
            case 7:
                return s.reinserts;
            case 8:
                return past.size();
            case 9:
                return (int) x;
            case 10:
                return tape.length();
            default:
                return (shelves[0] != null ? 1 : 0) + (shelves[1] != null ? 2 : 0);
        }
    }
}
