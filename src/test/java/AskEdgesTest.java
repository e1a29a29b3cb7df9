import java.math.BigInteger;

/** Questions, draws, acts undone and shelves at their edges: the last value that is taken, the first that is not. */
public final class AskEdgesTest extends Checks {
    private static final String SQUARE = "page 3 1 1; rect 5 -10 -20 30 40";

    // ---- windows

    private static void windowMeets() {
        about("WINDOW, an edge, too");
        RectFile f = told(SQUARE);
        int[][] met = {{-50, 0, -10, 0}, {30, 0, 50, 0}, {0, -50, 0, -20}, {0, 40, 0, 50},
            {-50, -50, -10, -20}, {30, 40, 50, 50}, {-50, 40, -10, 50}, {30, -50, 50, -20}, {0, 0, 0, 0},
            {-10, -20, 30, 40}, {-11, -21, 31, 41}, {MIN, MIN, MAX, MAX}, {MIN, MIN, -10, -20}, {30, 40, MAX, MAX}};
        int[][] missed = {{-50, 0, -11, 0}, {31, 0, 50, 0}, {0, -50, 0, -21}, {0, 41, 0, 50},
            {-50, -50, -11, -20}, {-50, -50, -10, -21}, {31, 40, 50, 50}, {30, 41, 50, 50},
            {MIN, MIN, -11, MAX}, {31, MIN, MAX, MAX}, {MIN, 41, MAX, MAX}, {MIN, MIN, MAX, -21}, {MIN, MIN, MIN, MIN},
            {MAX, MAX, MAX, MAX}};
        for (int[] w : met) {
            due("met", f.window(w[0], w[1], w[2], w[3], NONE), 1);
            due("met", f.window(w[0], w[1], w[2], w[3], 0), 5);
            due("behind the last", f.window(w[0], w[1], w[2], w[3], 1), -3);
        }
        for (int[] w : missed) {
            due("missed", f.window(w[0], w[1], w[2], w[3], NONE), 0);
            due("missed", f.window(w[0], w[1], w[2], w[3], 0), -3);
            due("the ROOT is looked at", f.window(w[0], w[1], w[2], w[3], -2), 1);
        }
    }

    private static void windowRefused() {
        about("WINDOW, others");
        RectFile f = told(SQUARE);
        due("x", f.window(1, 0, 0, 0, NONE), NONE);
        due("y", f.window(0, 1, 0, 0, NONE), NONE);
        due("x", f.window(1, 0, 0, 0, -2), NONE);
        due("y", f.window(0, 1, 0, 0, 0), NONE);
        due("x", f.window(MAX, 0, MIN, 0, NONE), NONE);
        due("k -3", f.window(0, 0, 0, 0, -3), NONE);
        due("k MIN", f.window(0, 0, 0, 0, MIN), NONE);
        due("k MAX", f.window(0, 0, 0, 0, MAX), -3);
    }

    private static void windowPages() {
        about("WINDOW, PAGES looked at");
        RectFile f = tenPoints();
        // Pages: 0 and 1 from 0, 0 to 90, 90; 2: 30, 40 to 50, 60; 3: 0, 70 to 20, 90; 4: 70, 0 to 90, 20; 5, 6: 60, 30.
        due("all", f.window(0, 0, 90, 90, -2), 7);
        due("beyond", f.window(91, 0, 95, 90, -2), 1);
        due("an edge of 0 and 1", f.window(90, 90, 95, 95, -2), 2);
        due("a corner of 2", f.window(50, 60, 55, 65, -2), 3);
        due("beside that corner", f.window(51, 60, 55, 65, -2), 2);
        due("5 and 6", f.window(60, 30, 60, 30, -2), 4);
        due("beside 5", f.window(61, 30, 65, 30, -2), 2);
        due("IDS", f.window(0, 0, 90, 90, 9), 9);
        due("IDS", f.window(0, 0, 90, 90, 10), -3);
        due("IDS", f.window(20, 0, 60, 90, 0), 2);
        due("IDS", f.window(20, 0, 60, 90, 4), 6);
        due("IDS", f.window(20, 0, 60, 90, 5), -3);
        f = told("page 3 1 1");
        due("an empty ROOT", f.window(0, 0, 0, 0, -2), 1);
        due("an empty ROOT", f.window(0, 0, 0, 0, NONE), 0);
        due("an empty ROOT", f.window(0, 0, 0, 0, 0), -3);
    }

    // ---- nearest

    private static void nearestFar() {
        about("NEAREST, FAR");
        RectFile f = told(SQUARE);
        int[][] points = {{0, 0, 0}, {-10, -20, 0}, {30, 40, 0}, {-10, 40, 0}, {-11, 0, 1}, {31, 0, 1}, {0, -21, 1},
            {0, 41, 1}, {-11, -21, 2}, {31, 41, 2}, {33, 44, 25}, {-2000, -2000, 1990 * 1990 + 1980 * 1980},
            {2000, 2000, 1970 * 1970 + 1960 * 1960}};
        for (int[] p : points) {
            due("far of " + p[0] + ", " + p[1], f.nearest(p[0], p[1], 0, 1), p[2]);
            due("ID", f.nearest(p[0], p[1], 0, 0), 5);
            due("opened", f.nearest(p[0], p[1], 0, 2), 1);
        }
        f = told("page 3 1 1; rect 0 1000 1000 1000 1000");
        due("farthest", f.nearest(-2000, -2000, 0, 1), 18000000);
    }

    private static void nearestRefused() {
        about("NEAREST, others");
        RectFile f = told(SQUARE);
        for (int edge : new int[] {-2000, 2000}) {
            int beyond = edge < 0 ? edge - 1 : edge + 1;
            due("x", f.nearest(edge, 0, 0, 0), 5);
            due("y", f.nearest(0, edge, 0, 0), 5);
            due("x beyond", f.nearest(beyond, 0, 0, 0), NONE);
            due("y beyond", f.nearest(0, beyond, 0, 0), NONE);
        }
        due("x MIN", f.nearest(MIN, 0, 0, 0), NONE);
        due("y MAX", f.nearest(0, MAX, 0, 0), NONE);
        due("k -1", f.nearest(0, 0, -1, 0), NONE);
        due("k MIN", f.nearest(0, 0, MIN, 2), NONE);
        due("k 1", f.nearest(0, 0, 1, 0), -2);
        due("k 1", f.nearest(0, 0, 1, 1), -2);
        due("k 1", f.nearest(0, 0, 1, 2), -2);
        due("k MAX", f.nearest(0, 0, MAX, 0), -2);
        due("what -1", f.nearest(0, 0, 0, -1), NONE);
        due("what 3", f.nearest(0, 0, 0, 3), NONE);
        due("what 3, not so many", f.nearest(0, 0, 9, 3), NONE);
        f = told("page 3 1 1");
        due("empty", f.nearest(0, 0, 0, 0), -2);
        due("empty", f.nearest(0, 0, 0, 2), -2);
    }

    /** A PAGE as far as a RECT is opened ahead of it: so all PAGES no farther than it are. */
    private static void nearestOrder() {
        about("NEAREST, of like ones");
        RectFile f = twoColumns();
        due("0 and 2 are as far: the least ID", f.nearest(55, 5, 0, 0), 0);
        due("both pages are opened", f.nearest(55, 5, 0, 2), 3);
        due("then 2", f.nearest(55, 5, 1, 0), 2);
        due("a little nearer", f.nearest(54, 5, 0, 2), 2);
        due("a little nearer", f.nearest(56, 5, 0, 0), 2);
        f = told("page 3 1 1");
        for (int i = 0; i < 30; i++) {
            int id = (7 * i + 3) % 30;
            f.put(id, 10 * (id % 6), 10 * (id / 6), 10 * (id % 6), 10 * (id / 6));
        }
        for (int k = 0; k < 30; k++) {
            int far = f.nearest(20, 20, k, 1);
            int opened = 0;
            for (int page = 0; page < f.count(1); page++) {
                opened += farOfPage(f, page, 20, 20) <= far ? 1 : 0;
            }
            due("opened for the " + k + "th", f.nearest(20, 20, k, 2), opened);
            int before = k == 0 ? -1 : f.nearest(20, 20, k - 1, 1);
            int id = f.nearest(20, 20, k, 0);
            boolean next = far > before || far == before && id > f.nearest(20, 20, k - 1, 0);
            due("behind the one ahead of it", next ? 1 : 0, 1);
            due("far of " + id, far, square(f.rect(id, 0) - 20) + square(f.rect(id, 1) - 20));
        }
    }

    /** As many wait at once as can be: 100 at one place behind all pages. */
    private static void nearestOfAll() {
        about("NEAREST of 100 at one place");
        for (int most : new int[] {3, 8}) {
            RectFile f = told("page " + most + " 1 1");
            for (int id = 99; id >= 0; id--) {
                f.put(id, 8, 8, 8, 8);
            }
            for (int k = 0; k < 100; k++) {
                due("the " + k + "th", f.nearest(5, 4, k, 0), k);
                due("far", f.nearest(5, 4, k, 1), 25);
                due("opened", f.nearest(5, 4, k, 2), f.count(1));
            }
            due("not so many", f.nearest(5, 4, 100, 0), -2);
        }
    }

    private static int square(int n) {
        return n * n;
    }

    private static int farOfPage(RectFile f, int page, int x, int y) {
        int beyondX = Math.max(0, Math.max(f.page(page, 0) - x, x - f.page(page, 2)));
        int beyondY = Math.max(0, Math.max(f.page(page, 1) - y, y - f.page(page, 3)));
        return square(beyondX) + square(beyondY);
    }

    // ---- twos, areas, grids

    private static void pairsMeet() {
        about("twos that meet");
        int[][] met = {{10, 0, 20, 10}, {0, 10, 10, 20}, {10, 10, 20, 20}, {-10, -10, 0, 0}, {5, 5, 5, 5},
            {-5, -5, 20, 20}, {0, 0, 10, 10}, {10, -5, 10, 20}};
        int[][] apart = {{11, 0, 20, 10}, {0, 11, 10, 20}, {11, 11, 20, 20}, {-10, -10, -1, -1}, {11, -5, 11, 20}};
        for (int[] r : met) {
            RectFile f = told("page 3 1 1; rect 0 0 0 10 10");
            f.put(99, r[0], r[1], r[2], r[3]);
            due("met", f.pairs(), 1);
        }
        for (int[] r : apart) {
            RectFile f = told("page 3 1 1; rect 0 0 0 10 10");
            f.put(99, r[0], r[1], r[2], r[3]);
            due("apart", f.pairs(), 0);
        }
        RectFile f = told("page 3 1 1; rect 3 0 0 0 0");
        due("one", f.pairs(), 0);
        for (int id = 0; id < 100; id++) {
            f.put(id, 0, 0, 0, 0);
        }
        due("all twos of 100", f.pairs(), 4950);
    }

    private static void unions() {
        about("UNION");
        RectFile f = told("page 3 1 1; rect 0 5 5 5 5; rect 1 0 7 90 7");
        due("without AREA", f.union(), 0);
        f.put(2, 0, 0, 1, 1);
        due("least", f.union(), 1);
        f.put(3, 1, 0, 2, 1);
        due("an edge in common", f.union(), 2);
        f.put(4, 0, 0, 2, 1);
        due("covered already", f.union(), 2);
        f.put(5, -3, -3, 0, 1);
        due("beside", f.union(), 14);
        f.put(6, -1, 0, 1, 4);
        due("across", f.union(), 20);
        f.put(7, -1000, -1000, 1000, 1000);
        due("all", f.union(), 4000000);
        f = told("page 8 4 3");
        for (int id = 0; id < 100; id++) {
            f.put(id, id - 50, -1000, id - 49, 1000);
        }
        due("100 stripes", f.union(), 200000);
        // Told neither by x nor by y.
        f = told("page 3 1 1; rect 1 7 20 9 30; rect 2 8 0 12 4; rect 3 0 2 10 25; rect 4 3 1 4 40");
        due("in any order", f.union(), 230 + 2 * 5 + 16 - 2 * 2 + 16);
        // Two that leave a hole between them, and one above another.
        f = told("page 3 1 1; rect 1 0 0 10 2; rect 2 0 5 10 8; rect 3 4 1 6 6; rect 4 0 2 3 5");
        due("a hole", f.union(), 20 + 30 + 2 * 3 + 9);
    }

    private static void gridSquares() {
        about("GRID, low sides, not high ones");
        for (int i = 0; i < 8; i++) {
            int low = Math.max(-1000, -1024 + 256 * i);
            int high = Math.min(1000, -1024 + 256 * i + 255);
            for (int place : new int[] {low, high}) {
                RectFile f = told("page 3 1 1; rect 0 " + place + " -1000 " + place + " -1000");
                due("x " + place, f.grid(0), 1L << i);
                due("x " + place, f.grid(1), 1L << i);
                f = told("page 3 1 1; rect 0 -1000 " + place + " -1000 " + place);
                due("y " + place, f.grid(0), 1L << 8 * i);
                due("y " + place, f.grid(1), 1L << 8 * i);
            }
        }
        RectFile f = told("page 3 1 1; rect 0 255 255 256 256");
        due("four", f.grid(0), 1L << 36 | 1L << 37 | 1L << 44 | 1L << 45);
        f = told("page 3 1 1; rect 0 -1000 1000 1000 1000");
        due("the last row", f.grid(0), 255L << 56);
        f = told("page 3 1 1; rect 0 1000 -1000 1000 1000");
        due("the last column", f.grid(0), 0x8080808080808080L);
        due("-1", f.grid(-1), 0);
        due("2", f.grid(2), 0);
        due("MIN", f.grid(MIN), 0);
        due("MAX", f.grid(MAX), 0);
        f = twoColumns();
        due("rects", f.grid(0), 1L << 36);
        // Two leaves: in the first two squares of the first row, and in the last four of the second.
        f = told("page 4 2 1; rect 0 -1000 -1000 -1000 -1000; rect 1 -600 -1000 -600 -1000;"
                + "rect 2 900 -600 900 -600;rect 3 600 -700 600 -700; rect 4 0 -600 0 -600");
        dueTree(f, "[[0 1] [4 3 2]]");
        due("rects", f.grid(0), 3L | 1L << 12 | 1L << 14 | 1L << 15);
        due("leaves", f.grid(1), 3L | 15L << 12);
        due("an empty file's leaves", told("page 3 1 1").grid(1), 0);
        due("an empty file's rects", told("page 3 1 1").grid(0), 0);
    }

    private static void fillAndCost() {
        about("FILL");
        for (int most = 3; most <= 8; most++) {
            RectFile f = told("page " + most + " 1 2");
            due("empty", f.fill(), 0);
            for (int n = 1; n <= 100; n++) {
                f.put(n - 1, (37 * n) % 101, (53 * n) % 97, (37 * n) % 101 + 3, (53 * n) % 97 + 2);
                int entries = n + f.count(1) - 1;
                float want = (float) entries / (float) (most * f.count(1));
                due("M " + most + " with " + n, f.fill(), Float.floatToIntBits(want));
            }
        }
        about("COST");
        RectFile f = told(SQUARE);
        int[][] sizes = {{0, 0}, {0, 2000}, {2000, 0}, {2000, 2000}, {1, 1}, {1999, 7}};
        for (int[] s : sizes) {
            double want = (double) (40 + s[0]) * (double) (60 + s[1]) / 4000000.0;
            due("cost " + s[0] + ", " + s[1], f.cost(s[0], s[1]), Double.doubleToLongBits(want));
        }
        for (int wrong : new int[] {-1, 2001, MIN, MAX}) {
            due("w", f.cost(wrong, 0), NONE);
            due("h", f.cost(0, wrong), NONE);
        }
        f = told("page 3 1 1; rect 0 -1000 -1000 1000 1000");
        for (int w = 0; w <= 2000; w++) {
            due("2 to 4", f.cost(w, 2000), Double.doubleToLongBits((2000 + w) * 4000.0 / 4000000.0));
            due("1 to 2", f.cost(0, w), Double.doubleToLongBits((2000 + w) * 2000.0 / 4000000.0));
        }
        f = told("page 3 1 1; rect 0 0 0 0 0");
        for (int w = 1; w <= 2000; w++) {
            due("to 1", f.cost(w, 2001 - w), Double.doubleToLongBits((double) w * (double) (2001 - w) / 4000000.0));
        }
        due("a point", f.cost(0, 0), 0);
        due("a point", f.cost(0, 2000), 0);
        due("least", f.cost(1, 1), Double.doubleToLongBits(1.0 / 4000000.0));
        due("an empty ROOT", told("page 3 1 1").cost(2000, 2000), 0);
        f = told("page 3 1 1");
        for (int id = 0; id < 100; id++) {
            f.put(id, -1000, -1000, 1000, 1000);
        }
        due("dearest", f.cost(2000, 2000), Double.doubleToLongBits(f.count(1) * 4.0));
        due("each 2", f.cost(0, 2000), Double.doubleToLongBits(f.count(1) * 2.0));
    }

    /** Of fewer and fewer pages, by the boxes that page() tells: nothing of a page that is no more counts. */
    private static void measuredByPages() {
        about("GRID, COST, OVERLAP by the BOXES of PAGES");
        RectFile f = told("page 3 1 1");
        for (int i = 0; i < 5; i++) {
            f.drawn(20);
        }
        for (int id = 0; id < 100; id++) {
            long bits = 0;
            double cost = 0.0;
            long[] overlaps = new long[f.count(2)];
            for (int page = 0; page < f.count(1); page++) {
                bits |= f.page(page, 4) == 0 ? squares(f, page) : 0;
                cost += (f.page(page, 2) - f.page(page, 0) + 5.0) * (f.page(page, 3) - f.page(page, 1) + 9.0);
                for (int other = 0; other < page; other++) {
                    overlaps[f.page(page, 4)] += f.page(page, 4) == f.page(other, 4) ? overlap(f, page, other) : 0;
                }
            }
            due("grid", f.grid(1), bits);
            due("cost", f.cost(5, 9), Double.doubleToLongBits(cost / 4000000.0));
            for (int level = 0; level < overlaps.length; level++) {
                due("overlap " + level, f.overlap(level), overlaps[level]);
            }
            f.remove(id);
        }
    }

    private static long squares(RectFile f, int page) {
        long bits = 0;
        for (int bit = 0; bit < 64; bit++) {
            int x = -1024 + 256 * (bit % 8);
            int y = -1024 + 256 * (bit / 8);
            boolean beside = f.page(page, 2) < x || f.page(page, 0) >= x + 256;
            boolean aboveOrBelow = f.page(page, 3) < y || f.page(page, 1) >= y + 256;
            bits |= beside || aboveOrBelow ? 0 : 1L << bit;
        }
        return bits;
    }

    private static long overlap(RectFile f, int one, int other) {
        int wide = Math.min(f.page(one, 2), f.page(other, 2)) - Math.max(f.page(one, 0), f.page(other, 0));
        int high = Math.min(f.page(one, 3), f.page(other, 3)) - Math.max(f.page(one, 1), f.page(other, 1));
        return wide > 0 && high > 0 ? (long) wide * high : 0;
    }

    // ---- what there is not

    private static void askedWithout() {
        about("without these");
        RectFile f = tenPoints();
        int pages = f.count(1);
        for (int what : new int[] {-1, 5, MIN, MAX}) {
            due("rect, what " + what, f.rect(0, what), MIN);
        }
        for (int id : new int[] {-1, 10, 99, 100, MIN, MAX}) {
            for (int what = 0; what <= 4; what++) {
                due("rect " + id, f.rect(id, what), MIN);
            }
        }
        for (int what : new int[] {-1, 8, MIN, MAX}) {
            due("page, what " + what, f.page(0, what), MIN);
        }
        for (int page : new int[] {-1, pages, pages + 1, MIN, MAX}) {
            for (int what = 0; what <= 7; what++) {
                due("page " + page, f.page(page, what), MIN);
            }
            due("entry of page " + page, f.entry(page, 0), NONE);
        }
        due("the last page", f.page(pages - 1, 7), 1);
        for (int page = 0; page < pages; page++) {
            int size = f.page(page, 5);
            due("the last entry", f.entry(page, size - 1) >= 0 ? 1 : 0, 1);
            for (int i : new int[] {-1, size, size + 1, 9, MIN, MAX}) {
                due("entry " + i, f.entry(page, i), NONE);
            }
        }
        for (int level : new int[] {-1, 3, 4, MIN, MAX}) {
            due("overlap " + level, f.overlap(level), NONE);
        }
        due("the last level", f.overlap(2), 0);
        due("level 0 of an empty file", told("page 3 1 1").overlap(0), 0);
        due("level 1 of an empty file", told("page 3 1 1").overlap(1), NONE);
        for (int what : new int[] {-1, 12, MIN, MAX}) {
            due("count " + what, f.count(what), NONE);
            due("count " + what, new RectFile().count(what), NONE);
        }
        due("entry of an empty page", told("page 3 1 1").entry(0, 0), NONE);
    }

    private static void rectsTaken() {
        about("-1000 to 1000, low ones not above high ones");
        int[][] taken = {{-1000, 0, 0, 0}, {0, -1000, 0, 0}, {0, 0, 1000, 0}, {0, 0, 0, 1000},
            {1000, 1000, 1000, 1000}, {-1000, -1000, -1000, -1000}, {3, 4, 3, 4}};
        int[][] refused = {{-1001, 0, 0, 0}, {0, -1001, 0, 0}, {0, 0, 1001, 0}, {0, 0, 0, 1001}, {1, 0, 0, 0},
            {0, 1, 0, 0}, {1001, 0, 1001, 0}, {0, 1001, 0, 1001}, {-1001, 0, -1001, 0}, {0, -1001, 0, -1001},
            {MIN, 0, MAX, 0}, {0, MIN, 0, MAX}, {MAX, MAX, MIN, MIN}};
        for (int[] r : taken) {
            RectFile f = told("page 3 1 1");
            due("choose", f.choose(r[0], r[1], r[2], r[3]), 0);
            due("put", f.put(0, r[0], r[1], r[2], r[3]), 1);
            dueRect(f, 0, r[0], r[1], r[2], r[3]);
        }
        for (int[] r : refused) {
            RectFile f = told("page 3 1 1");
            due("choose", f.choose(r[0], r[1], r[2], r[3]), NONE);
            due("put", f.put(0, r[0], r[1], r[2], r[3]), NONE);
            due("rects", f.count(0), 0);
            due("acts", f.count(8), 0);
        }
        RectFile f = told("page 3 1 1");
        due("ID 0", f.put(0, 0, 0, 0, 0), 1);
        due("ID 99", f.put(99, 0, 0, 0, 0), 1);
        for (int id : new int[] {-1, 100, MIN, MAX}) {
            due("put " + id, f.put(id, 0, 0, 0, 0), NONE);
            due("remove " + id, f.remove(id), NONE);
            due("shift " + id, f.shift(id, 0, 0), NONE);
        }
        due("known", f.put(99, 0, 0, 0, 0), -2);
        due("known", f.put(0, 5, 5, 5, 5), -2);
        due("known, but wrong sides", f.put(0, 5, 5, 4, 5), NONE);
        due("rects", f.count(0), 2);
    }

    // ---- draws

    private static BigInteger next(BigInteger x) {
        return x.multiply(BigInteger.valueOf(1103515245L)).add(BigInteger.valueOf(12345L))
                .mod(BigInteger.valueOf(2147483648L));
    }

    private static int draw(BigInteger x, int k) {
        return x.divide(BigInteger.valueOf(65536)).mod(BigInteger.valueOf(k)).intValueExact();
    }

    private static void drawsRound() {
        about("DRAWS, of 2147483648 the rest");
        RectFile f = told("page 3 1 1");
        due("MAX", f.draws(MAX), 0);
        f.drawn(1);
        // 2147483648 - 1103515245 + 12345 is 1043980748: by 65536 it is 15929, of 1801 the rest of it is 1521.
        due("x1", f.rect(0, 0), 621);
        for (int start : new int[] {0, 1, 2, 65535, 65536, 1 << 30, MAX - 1, MAX}) {
            f = told("page 4 2 2");
            due("what it was", f.draws(start), 0);
            due("came", f.drawn(20), 20);
            BigInteger x = BigInteger.valueOf(start);
            for (int id = 0; id < 20; id++) {
                int[] sides = new int[4];
                for (int i = 0; i < 4; i++) {
                    x = next(x);
                    sides[i] = i < 2 ? draw(x, 1801) - 900 : sides[i - 2] + draw(x, 101);
                }
                dueRect(f, id, sides[0], sides[1], sides[2], sides[3]);
            }
            due("x", f.count(9), x.intValueExact());
            due("what it was", f.draws(0), x.intValueExact());
        }
        f = new RectFile();
        due("-1", f.draws(-1), NONE);
        due("MIN", f.draws(MIN), NONE);
        due("0", f.draws(0), 0);
        due("MAX", f.draws(MAX), 0);
        due("-1", f.draws(-1), NONE);
        due("x", f.count(9), MAX);
    }

    private static void drawnEdges() {
        about("DRAWN n");
        RectFile f = told("page 3 1 1");
        for (int n : new int[] {0, -1, 21, MIN, MAX}) {
            due("drawn " + n, f.drawn(n), NONE);
        }
        due("acts", f.count(8), 0);
        due("x", f.count(9), 0);
        due("1", f.drawn(1), 1);
        due("20", f.drawn(20), 20);
        due("acts", f.count(8), 2);
        dueSound(f);
        for (int id = 21; id < 100; id++) {
            if (id != 50 && id != 98) {
                f.put(id, 0, 0, 0, 0);
            }
        }
        int x = f.count(9);
        due("two are free", f.drawn(20), 2);
        due("50", f.rect(50, 4) >= 0 ? 1 : 0, 1);
        due("98", f.rect(98, 4) >= 0 ? 1 : 0, 1);
        BigInteger eight = BigInteger.valueOf(x);
        for (int i = 0; i < 8; i++) {
            eight = next(eight);
        }
        due("no more DRAWS than for two", f.count(9), eight.intValueExact());
        due("none is free", f.drawn(1), 0);
        due("x", f.count(9), eight.intValueExact());
        due("rects", f.count(0), 100);
        due("undone", f.undo(), 7);
        due("rects", f.count(0), 100);
        due("undone", f.undo(), 6);
        due("rects", f.count(0), 98);
        due("x", f.count(9), x);
    }

    /** Each RECT has REINSERTS of its own: n at once are as n one by one, but for the ACTS. */
    private static void drawnOneByOne() {
        about("REINSERTED once on a LEVEL for each that is DRAWN");
        for (int seed = 0; seed < 20; seed++) {
            RectFile together = told("page 3 1 1");
            RectFile single = told("page 3 1 1");
            together.draws(seed);
            single.draws(seed);
            due("drawn", together.drawn(20), 20);
            for (int i = 0; i < 20; i++) {
                due("drawn", single.drawn(1), 1);
            }
            due("acts", together.count(8), 1);
            dueText("drawn from " + seed, allButActs(together), allButActs(single));
            due("more REINSERTS than LEVELS", together.count(7) > together.count(2) ? 1 : 0, 1);
        }
    }

    /** So it is with the RECTS of a FILE: told they are as PUT one by one. */
    private static void toldOneByOne() {
        about("RECTS are PUT in their order");
        for (int seed = 0; seed < 20; seed++) {
            RectFile single = told("page 3 1 1");
            StringBuilder text = new StringBuilder("page 3 1 1");
            int place = seed;
            for (int i = 0; i < 16; i++) {
                int id = 7 * i % 100;
                place = (37 * place + 11) % 97;
                text.append(";rect ").append(id).append(' ').append(place).append(" 0 ").append(place).append(" 9");
                single.put(id, place, 0, place, 9);
            }
            RectFile together = told(text.toString());
            due("acts", together.count(8), 0);
            dueText("told from " + seed, allButActs(together), allButActs(single));
            due("more REINSERTS than LEVELS", together.count(7) > together.count(2) ? 1 : 0, 1);
        }
    }

    // ---- acts undone, shelves

    private static int act(RectFile f, int which) {
        switch (which % 6) {
            case 0:
                return f.put(40 + which, 3 * which, which, 5 * which, 2 * which);
            case 1:
                return f.remove(which);
            case 2:
                return f.shift(9, which, -which);
            case 3:
                return f.bulk();
            case 4:
                return f.graft(2, 5);
            default:
                return f.drawn(3);
        }
    }

    /** All but how many ACTS can be UNDONE. */
    private static String allButActs(RectFile f) {
        return all(f).replaceFirst("^(count(?: -?\\d+){8}) -?\\d+", "$1");
    }

    /** Every kind of ACT by itself: all is as ahead of it, x too. */
    private static void undoEach() {
        about("each ACT UNDONE");
        for (int which = 0; which < 6; which++) {
            RectFile f = tenPoints();
            f.draws(7);
            tell(f, "page 3 1 1;");
            String before = allButActs(f);
            due("act " + which, act(f, which) > 0 ? 1 : 0, 1);
            due("acts", f.count(8), 8);
            f.draws(99);
            due("undo", f.undo(), 7);
            due("x", f.count(9), 7);
            dueText("act " + which + " undone", allButActs(f), before);
        }
    }

    private static void undoEight() {
        about("the last 8 ACTS");
        for (int acts = 0; acts <= 20; acts++) {
            RectFile f = told("page 3 1 1");
            String[] trees = new String[acts + 1];
            for (int i = 0; i < acts; i++) {
                trees[i] = tree(f) + f.count(9);
                f.drawn(1 + i % 3);
                due("acts", f.count(8), Math.min(8, i + 1));
            }
            for (int i = 1; i <= Math.min(8, acts); i++) {
                due("undo", f.undo(), Math.min(8, acts) - i);
                dueText("undone", tree(f) + f.count(9), trees[acts - i]);
            }
            due("none more", f.undo(), NONE);
            due("none more", f.undo(), NONE);
            due("acts", f.count(8), 0);
            f.bulk();
            due("acts", f.count(8), 1);
            due("undo", f.undo(), 0);
        }
    }

    private static void nothingToUndo() {
        about("nothing can be UNDONE");
        due("no file", new RectFile().undo(), NONE);
        RectFile f = twoColumns();
        due("a file told", f.undo(), NONE);
        due("rects", f.count(0), 5);
        f.bulk();
        f.keep(0);
        due("keep is no ACT", f.count(8), 1);
        f.draws(5);
        due("draws is no ACT", f.count(8), 1);
        f.feed(0, 0, 0, 0, 0);
        due("feed is no ACT", f.count(8), 1);
        f.file();
        due("a wrong file", f.count(8), 1);
        f.back(0);
        due("back", f.count(8), 0);
        due("back", f.undo(), NONE);
        f.bulk();
        f.undo();
        due("undo is no ACT", f.count(8), 0);
        f.bulk();
        tell(f, "page 3 1 1");
        due("a file told", f.count(8), 0);
        due("a file told", f.undo(), NONE);
    }

    private static void shelves() {
        about("SHELVES 0 and 1");
        for (int shelf : new int[] {-1, 2, MIN, MAX}) {
            RectFile f = twoColumns();
            due("keep " + shelf, f.keep(shelf), NONE);
            due("back " + shelf, f.back(shelf), NONE);
            due("same " + shelf, f.same(shelf), NONE);
            due("shelves", f.count(11), 0);
            due("back " + shelf, new RectFile().back(shelf), NONE);
            due("same " + shelf, new RectFile().same(shelf), NONE);
            due("keep " + shelf, new RectFile().keep(shelf), NONE);
        }
        for (int shelf = 0; shelf <= 1; shelf++) {
            due("keep without a file", new RectFile().keep(shelf), NONE);
            due("back without a file", new RectFile().back(shelf), -2);
            due("same without a file", new RectFile().same(shelf), NONE);
            RectFile f = twoColumns();
            due("nothing is kept", f.back(shelf), -2);
            due("nothing is kept", f.same(shelf), -2);
            due("keep", f.keep(shelf), 5);
            due("shelves", f.count(11), 1 << shelf);
            due("the other one", f.back(1 - shelf), -2);
            due("the other one", f.same(1 - shelf), -2);
            due("same", f.same(shelf), 1);
            due("back", f.back(shelf), 5);
        }
        RectFile f = told("page 3 1 1");
        due("an empty file", f.keep(0), 0);
        due("an empty file", f.same(0), 1);
        f.put(1, 0, 0, 0, 0);
        due("same", f.same(0), 0);
        due("an empty file", f.back(0), 0);
        due("shelves stay", f.count(11), 1);
    }

    /** All is KEPT: M, m, p, SPLITS and REINSERTS, too; x is not, and no act changes what is KEPT. */
    private static void keptWhole() {
        about("all is KEPT");
        RectFile f = told("page 4 2 3");
        f.draws(11);
        for (int i = 0; i < 5; i++) {
            f.drawn(20);
        }
        String before = all(f).replaceFirst("count.*", "").replaceFirst("; -?\\d -?\\d$", "");
        int splits = f.count(6);
        int reinserts = f.count(7);
        due("reinserts", reinserts > 0 ? 1 : 0, 1);
        due("keep", f.keep(1), 100);
        for (int id = 0; id < 50; id++) {
            f.remove(2 * id);
        }
        f.bulk();
        due("rects", f.count(0), 50);
        tell(f, "page 8 1 1; rect 3 0 0 0 0");
        f.draws(12);
        due("back", f.back(1), 100);
        dueText("kept", all(f).replaceFirst("count.*", "").replaceFirst("; -?\\d -?\\d$", ""), before);
        due("M", f.count(3), 4);
        due("m", f.count(4), 2);
        due("p", f.count(5), 3);
        due("splits", f.count(6), splits);
        due("reinserts", f.count(7), reinserts);
        due("x", f.count(9), 12);
        due("same", f.same(1), 1);
    }

    private static void likeTrees() {
        about("the tree is like that on a SHELF");
        RectFile f = tenPoints();
        f.keep(0);
        f.draws(5);
        f.feed(1, 2, 3, 4, 5);
        due("x and tape are no part", f.same(0), 1);
        f.graft(2, 5);
        due("other PAGES, like RECTS", f.same(0), 0);
        f.undo();
        due("undone", f.same(0), 1);
        for (int what = 0; what < 4; what++) {
            RectFile g = told("page 3 1 1; rect 1 0 0 5 5; rect 2 -9 -9 9 9");
            g.keep(1);
            int[] sides = {0, 0, 5, 5};
            sides[what] += 1;
            tell(g, "page 3 1 1; rect 1 " + sides[0] + " " + sides[1] + " " + sides[2] + " " + sides[3]
                    + "; rect 2 -9 -9 9 9");
            due("side " + what, g.same(1), 0);
        }
        RectFile g = told("page 3 1 1; rect 1 0 0 5 5; rect 2 0 0 5 5");
        g.keep(0);
        tell(g, "page 3 1 1; rect 2 0 0 5 5; rect 1 0 0 5 5");
        due("another order", g.same(0), 0);
        tell(g, "page 3 1 1; rect 1 0 0 5 5");
        due("one fewer", g.same(0), 0);
        tell(g, "page 3 1 1; rect 1 0 0 5 5; rect 2 0 0 5 5; rect 3 0 0 5 5");
        due("one more", g.same(0), 0);
        tell(g, "page 8 4 3; rect 1 0 0 5 5; rect 2 0 0 5 5");
        due("other M, m, p", g.same(0), 1);
        g = told("page 3 1 1");
        for (int i = 0; i < 4; i++) {
            g.put(i, i, 0, i, 0);
        }
        dueTree(g, "[[0] [1 2 3]]");
        g.keep(0);
        g.bulk();
        dueTree(g, "[[0 1 2] [3]]");
        due("other sizes", g.same(0), 0);
        g = told("page 3 1 1");
        for (int i = 0; i < 4; i++) {
            g.put(i, 5, 5, 5, 5);
        }
        dueTree(g, "[[0] [1 2 3]]");
        g.keep(0);
        g.bulk();
        dueTree(g, "[[0 1 2] [3]]");
        due("other sizes, like BOXES", g.same(0), 0);
        g = told("page 3 1 1; rect 99 0 0 5 5");
        g.keep(0);
        g.put(98, 1, 2, 3, 4);
        due("one more", g.same(0), 0);
        g.remove(98);
        due("one that is no more is no part", g.same(0), 1);
    }

    /** A file told anew has nothing of the one there was but x and the SHELVES. */
    private static void toldAnew() {
        about("a FILE in place of the one there was");
        RectFile f = told("page 4 2 3");
        f.draws(11);
        for (int i = 0; i < 5; i++) {
            f.drawn(20);
        }
        f.keep(1);
        int x = f.count(9);
        due("file", tell(f, "page 3 1 1; rect 7 1 2 3 4"), 1);
        dueTree(f, "[7]");
        int[] want = {1, 1, 1, 3, 1, 1, 0, 0, 0, x, 0, 2};
        for (int what = 0; what < want.length; what++) {
            due("count " + what, f.count(what), want[what]);
        }
        for (int id = 0; id < 100; id++) {
            due("rect " + id, f.rect(id, 4), id == 7 ? 0 : MIN);
        }
        due("put", f.put(8, 0, 0, 0, 0), 1);
        dueSound(f);
    }

    /** The PUTs of file() count as any others: the fourth splits the ROOT, the fifth throws one out, then splits. */
    private static void countedWhileTold() {
        about("SPLITS and REINSERTS since the FILE was told");
        String[] rects = {"; rect 0 0 0 10 10", "; rect 1 20 0 30 10", "; rect 2 40 0 50 10", "; rect 3 100 100 110 110",
            "; rect 4 10 0 15 10"};
        int[] splits = {0, 0, 0, 0, 1, 2};
        int[] reinserts = {0, 0, 0, 0, 0, 1};
        StringBuilder text = new StringBuilder("page 3 1 1");
        for (int i = 0; i <= rects.length; i++) {
            RectFile f = told(text.toString());
            due("splits of " + i, f.count(6), splits[i]);
            due("reinserts of " + i, f.count(7), reinserts[i]);
            text.append(i < rects.length ? rects[i] : "");
        }
    }

    /** The TAPE and the SHELVES are beside the FILE: undo() and back() leave them as they are. */
    private static void besideTheFile() {
        about("the TAPE and the SHELVES stay");
        RectFile f = twoColumns();
        f.bulk();
        f.keep(0);
        due("feed", feedText(f, "page 8 4 3; rect 9 1 2 3 4"), 26);
        due("remove", f.remove(0) > 0 ? 1 : 0, 1);
        f.keep(1);
        due("undo", f.undo(), 1);
        due("bytes", f.count(10), 26);
        due("shelves", f.count(11), 3);
        due("kept ahead of the act", f.same(0), 1);
        due("kept behind it", f.same(1), 0);
        due("undo", f.undo(), 0);
        due("bytes", f.count(10), 26);
        due("shelves", f.count(11), 3);
        due("back", f.back(1), 4);
        due("bytes", f.count(10), 26);
        due("shelves", f.count(11), 3);
        due("back", f.back(0), 5);
        due("bytes", f.count(10), 26);
        due("what was fed ahead of all that", f.file(), 1);
        dueRect(f, 9, 1, 2, 3, 4);
        due("M", f.count(3), 8);
    }

    public static void main(String[] args) {
        windowMeets();
        windowRefused();
        windowPages();
        nearestFar();
        nearestRefused();
        nearestOrder();
        nearestOfAll();
        pairsMeet();
        unions();
        gridSquares();
        fillAndCost();
        measuredByPages();
        askedWithout();
        rectsTaken();
        drawsRound();
        drawnEdges();
        drawnOneByOne();
        toldOneByOne();
        undoEach();
        undoEight();
        nothingToUndo();
        shelves();
        keptWhole();
        likeTrees();
        toldAnew();
        countedWhileTold();
        besideTheFile();
        finish("ask edges");
    }
}
