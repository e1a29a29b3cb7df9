/** Pages at their edges: how an entry comes, too full, once more, split, too few, tiles, grafts; worked out by hand. */
public final class TreeEdgesTest extends Checks {
    /** Every M with every m that goes with it. */
    private interface Sizes {
        void with(int most, int least);
    }

    private static void forAllSizes(Sizes sizes) {
        for (int most = 3; most <= 8; most++) {
            for (int least = 1; 2 * least <= most; least++) {
                sizes.with(most, least);
            }
        }
    }

    private static RectFile empty(int most, int least, int again) {
        return told("page " + most + " " + least + " " + again);
    }

    private static void putRow(RectFile f, int from, int to) {
        for (int i = from; i < to; i++) {
            f.put(i, 10 * i, 0, 10 * i, 0);
        }
    }

    /** Points at one place: wherever sizes are compared all are alike. */
    private static void putSame(RectFile f, int from, int to) {
        for (int i = from; i < to; i++) {
            f.put(i, 5, 5, 5, 5);
        }
    }

    private static String row(int from, int to) {
        StringBuilder b = new StringBuilder("[");
        for (int i = from; i < to; i++) {
            b.append(i == from ? "" : " ").append(i);
        }
        return b.append(']').toString();
    }

    private static void atFirst() {
        about("at first the ROOT is empty");
        RectFile f = empty(3, 1, 1);
        dueTree(f, "[]");
        due("level", f.page(0, 4), 0);
        due("pages", f.count(1), 1);
        due("levels", f.count(2), 1);
        dueBox(f, 0, MIN, MIN, MIN, MIN);
        dueSound(f);
    }

    /** M fit in the ROOT; with one more it is SPLIT, not REINSERTED: all is alike, so the first PARTING is taken. */
    private static void fullRoot(int most, int least) {
        about("M " + most + ", m " + least);
        RectFile f = empty(most, least, 1);
        putRow(f, 0, most);
        dueTree(f, row(0, most));
        due("splits", f.count(6), 0);
        due("pages", f.put(most, 10 * most, 0, 10 * most, 0), 3);
        dueTree(f, "[" + row(0, least) + " " + row(least, most + 1) + "]");
        due("splits", f.count(6), 1);
        due("reinserts", f.count(7), 0);
        due("levels", f.count(2), 2);
        dueSound(f);
    }

    /** A page that has m stays; one with fewer goes out, and the ROOT that has one PAGE alone with it. */
    private static void fewest(int most, int least) {
        about("m " + least + " of M " + most);
        RectFile f = empty(most, least, 1);
        putRow(f, 0, most + 1);
        due("a page of m loses one", f.remove(0), 1);
        String rest = row(1, least).replace("[", "").replace("]", "");
        dueTree(f, row(least, most + 1).replace("]", rest.isEmpty() ? "]" : " " + rest + "]"));
        due("level", f.page(0, 4), 0);
        f.undo();
        for (int i = most; i >= 2 * least; i--) {
            due("down to m", f.remove(i), 3);
        }
        dueTree(f, "[" + row(0, least) + " " + row(least, 2 * least) + "]");
        due("below m", f.remove(2 * least - 1), 1);
        dueTree(f, row(0, 2 * least - 1));
        dueSound(f);
    }

    private static void emptied() {
        about("the last RECT goes");
        RectFile f = empty(8, 4, 3);
        putRow(f, 0, 1);
        due("remove", f.remove(0), 1);
        dueTree(f, "[]");
        dueBox(f, 0, MIN, MIN, MIN, MIN);
        due("put", f.put(0, 1, 2, 3, 4), 1);
        dueBox(f, 0, 1, 2, 3, 4);
    }

    /** A BOX grows by any of its sides, to any other one, and those above it with it. */
    private static void boxesGrow() {
        about("a BOX is the least one round what it has");
        for (int i = 0; i < 6561; i++) {
            int[] inner = {i % 3, i / 3 % 3, i / 9 % 3, i / 27 % 3};
            int[] outer = {i / 81 % 3, i / 243 % 3, i / 729 % 3, i / 2187 % 3};
            boolean round = inner[0] <= inner[2] && inner[1] <= inner[3] && outer[0] <= inner[0] && outer[1] <= inner[1]
                    && outer[2] >= inner[2] && outer[3] >= inner[3];
            if (round) {
                RectFile f = empty(3, 1, 1);
                for (int id = 0; id < 4; id++) {
                    f.put(id, inner[0], inner[1], inner[2], inner[3]);
                }
                dueTree(f, "[[0] [1 2 3]]");
                f.put(4, outer[0], outer[1], outer[2], outer[3]);
                dueTree(f, "[[0 4] [1 2 3]]");
                dueBox(f, 0, outer[0], outer[1], outer[2], outer[3]);
                dueSound(f);
                f.remove(4);
                dueBox(f, 0, inner[0], inner[1], inner[2], inner[3]);
            }
        }
        RectFile f = told("page 3 1 1; rect 1 0 0 5 5; rect 2 -3 1 9 8");
        f.remove(2);
        dueBox(f, 0, 0, 0, 5, 5);
    }

    // ---- an entry comes

    /** Pages of three rects each, as large as told; of the first two the first lies lower, a third farther right. */
    private static RectFile pagesOf(int[]... boxes) {
        RectFile f = empty(3, 1, 1);
        StringBuilder want = new StringBuilder();
        for (int i = 0; i < 3 * boxes.length; i++) {
            int[] box = boxes[i / 3];
            f.put(i, box[0], box[1], box[2], box[3]);
            want.append(i % 3 == 0 ? " " + row(i, i + 3) : "");
        }
        f.bulk();
        dueTree(f, "[" + want.toString().trim() + "]");
        return f;
    }

    private static void overlapOf(int want, int x1, int y1, int x2, int y2) {
        RectFile f = pagesOf(new int[] {0, 0, 10, 10}, new int[] {x1, y1, x2, y2});
        due("overlap with " + x1 + " " + y1 + " " + x2 + " " + y2, f.overlap(0), want);
    }

    private static void overlaps() {
        about("OVERLAP of two");
        overlapOf(1, 9, 9, 19, 19);
        overlapOf(10, 0, 9, 10, 30);
        overlapOf(10, 9, 0, 30, 10);
        overlapOf(0, 10, 0, 20, 10);
        overlapOf(0, 0, 10, 10, 20);
        overlapOf(0, 10, 10, 20, 20);
        overlapOf(0, 11, 0, 20, 10);
        overlapOf(0, 0, 11, 10, 20);
        overlapOf(0, 15, 15, 20, 20);
        overlapOf(100, 0, 0, 10, 10);
        overlapOf(100, -5, -4, 20, 30);
        overlapOf(4, 4, 5, 6, 7);
        overlapOf(0, 5, 5, 5, 15);
        overlapOf(0, -500, 500, -400, 600);
    }

    private static void comesToLeaves() {
        about("an ENTRY COMES to a PAGE of LEVEL 0");
        RectFile f = twoColumns();
        // 1 would grow by 2850 and overlap 150 more, 2 would grow by 4550 and overlap 30 more.
        due("least MORE OVERLAP", f.choose(9, 0, 105, 1), 2);
        // Neither would overlap more: 1 would grow by 44 * 30, 2 by 46 * 50; then by 60 * 30 and 30 * 50.
        due("least growth", f.choose(54, 0, 54, 10), 1);
        due("least growth", f.choose(70, 0, 70, 10), 2);
        // It lies within both: no growth, and the AREA of 2 is less.
        f = pagesOf(new int[] {0, 0, 100, 100}, new int[] {40, 40, 70, 70});
        due("least AREA", f.choose(50, 50, 51, 51), 2);
        f = pagesOf(new int[] {40, 40, 60, 60}, new int[] {0, 10, 100, 100});
        due("least AREA", f.choose(50, 50, 51, 51), 1);
        f = pagesOf(new int[] {0, 0, 10, 10}, new int[] {0, 0, 10, 10});
        due("the first", f.choose(5, 5, 5, 5), 1);
        // At the edge of 1, which would not grow; 2 would grow by 100, and be less than 1 then.
        f = pagesOf(new int[] {0, 0, 100, 100}, new int[] {110, 50, 120, 60});
        due("growth, not what it would be", f.choose(100, 50, 100, 60), 1);
        // It lies in 1, which would overlap no more than the 5000 that it does; 3 would overlap 10 more.
        f = pagesOf(new int[] {0, 0, 100, 100}, new int[] {0, 50, 100, 150}, new int[] {110, 0, 120, 10});
        due("less what it is", f.choose(99, 0, 100, 10), 1);
        // 1 would overlap 10 of 2 and 20 of 3, 2 would overlap 25 of 1 and 10 of 3, 3 50 of 1 and 10 of 2.
        f = pagesOf(new int[] {0, 0, 10, 10}, new int[] {20, 20, 30, 30}, new int[] {40, 0, 50, 10});
        due("of all its other ENTRIES, together", f.choose(5, 5, 42, 21), 1);
        // 1 would overlap 10 of 3 and grow by 194, 2 would grow by 278 and overlap none, 3 would overlap 50 of 1.
        f = pagesOf(new int[] {0, 0, 10, 10}, new int[] {0, 20, 10, 30}, new int[] {20, 0, 30, 10});
        due("of all its other ENTRIES, together", f.choose(5, 12, 21, 14), 2);
    }

    /** Q1 and Q2 on LEVEL 1: 0 to 10 by 0 to 30 with three leaves, 100 to 110 by 40 to 190 with one. */
    private static RectFile twoBranches() {
        RectFile f = empty(3, 1, 1);
        int[] heights = {0, 5, 10, 12, 15, 17, 20, 25, 30};
        for (int i = 0; i < 9; i++) {
            f.put(i, 0, heights[i], 10, heights[i]);
        }
        f.put(9, 100, 40, 110, 40);
        f.put(10, 100, 100, 110, 100);
        f.put(11, 100, 190, 110, 190);
        f.bulk();
        dueTree(f, "[[[0 1 2] [3 4 5] [6 7 8]] [[9 10 11]]]");
        return f;
    }

    private static void comesToBranches() {
        about("an ENTRY COMES from higher up");
        RectFile f = twoBranches();
        // Q1 would grow by 6000, Q2 by 14500; that Q1 would overlap 100 more, Q2 none, does not count here.
        // In Q1 the leaves would overlap 150, 100 and 0 more.
        due("least growth", f.choose(10, 30, 105, 60), 4);
        due("least growth", f.choose(90, 150, 95, 160), 6);
        f = tenPoints();
        due("least AREA", f.choose(60, 30, 60, 30), 6);
        f = empty(3, 1, 1);
        putSame(f, 0, 12);
        due("the first", f.choose(5, 5, 5, 5), 2);
        due("levels", f.count(2), 3);
    }

    // ---- too full

    /** All at one place: what stands ahead goes out, what stands behind comes first, and all comes to the first page. */
    private static void reinsertsAlike() {
        about("REINSERT, all alike");
        String[] want = {"[[5] [1 2 3 4] [6 7 8 0]]", "[[6] [1 2 3 4] [7 8 5 0]]", "[[7] [1 2 3 4] [8 6 5 0]]"};
        for (int again = 1; again <= 3; again++) {
            RectFile f = empty(4, 1, again);
            putSame(f, 0, 5);
            dueTree(f, "[[0] [1 2 3 4]]");
            putSame(f, 5, 8);
            dueTree(f, "[[0 5 6 7] [1 2 3 4]]");
            due("reinserts", f.count(7), 0);
            putSame(f, 8, 9);
            dueTree(f, want[again - 1]);
            due("reinserts", f.count(7), 1);
            due("splits", f.count(6), 2);
        }
    }

    /**
     * The corner 3 is farthest from the middle of its page, by x and y together, then 1 and 0 are alike; 3 goes to
     * the other page then, the others come back.
     */
    private static void reinsertsFarthest() {
        about("REINSERT, the farthest");
        String[] want = {"[[1 0 2 6] [4 5 3]]", "[[0 2 6 1] [4 5 3]]", "[[2 6 0 1] [4 5 3]]"};
        for (int i = 0; i < 9; i++) {
            int again = i % 3 + 1;
            int dx = -300 * (i / 3);
            int dy = 170 * (i / 3);
            RectFile f = empty(4, 2, again);
            int[][] points = {{0, 250}, {250, 0}, {250, 400}, {500, 500}, {500, 510}, {500, 520}};
            for (int id = 0; id < points.length; id++) {
                f.put(id, points[id][0] + dx, points[id][1] + dy, points[id][0] + dx, points[id][1] + dy);
            }
            f.bulk();
            dueTree(f, "[[1 0 2 3] [4 5]]");
            int splits = f.count(6);
            int reinserts = f.count(7);
            due("pages", f.put(6, 250 + dx, 250 + dy, 250 + dx, 250 + dy), 3);
            dueTree(f, want[again - 1]);
            due("reinserts", f.count(7) - reinserts, 1);
            due("splits", f.count(6) - splits, 0);
            dueSound(f);
        }
    }

    /** The farthest stands second; it goes to the other page, where the growth is less. */
    private static void reinsertsSecond() {
        about("REINSERT, the second is the farthest");
        RectFile f = empty(4, 2, 1);
        int[][] points = {{0, 250}, {250, -1}, {250, 500}, {500, 0}, {600, 510}, {600, 520}};
        for (int id = 0; id < points.length; id++) {
            f.put(id, points[id][0], points[id][1], points[id][0], points[id][1]);
        }
        f.bulk();
        dueTree(f, "[[1 3 0 2] [4 5]]");
        f.put(6, 250, 250, 250, 250);
        dueTree(f, "[[1 0 2 6] [4 5 3]]");
    }

    /**
     * The BOX is that of all M and 1: with 30 in it 0 and 30 are as far from its middle, and 0 stands ahead; it goes to
     * the page on its left, which is split. Were 30 left out of the BOX, 30 itself would be the farthest.
     */
    private static void reinsertsByWholeBox() {
        about("REINSERT, the BOX has the last one, too");
        RectFile f = empty(3, 1, 1);
        int[] places = {-9, -3, -2, 0, 4, 10};
        for (int id = 0; id < places.length; id++) {
            f.put(id, places[id], 0, places[id], 1);
        }
        f.bulk();
        dueTree(f, "[[0 1 2] [3 4 5]]");
        f.put(6, 30, 0, 30, 1);
        dueTree(f, "[[0] [4 5 6] [1 2 3]]");
    }

    /** Up to three levels: on each LEVEL but the ROOT's once in an ACT, then split; the next ACT begins anew. */
    private static void reinsertsOnLevels() {
        about("REINSERTED once on a LEVEL");
        RectFile f = empty(3, 1, 1);
        putSame(f, 0, 7);
        dueTree(f, "[[4] [1 2 3] [5 6 0]]");
        due("splits", f.count(6), 2);
        due("reinserts", f.count(7), 1);
        putSame(f, 7, 10);
        dueTree(f, "[[[7]] [[1 2 3] [5 6 0] [8 9 4]]]");
        due("splits", f.count(6), 4);
        due("reinserts", f.count(7), 2);
        putSame(f, 10, 16);
        dueTree(f, "[[[13] [11 12 7] [14 15 10]] [[1 2 3] [5 6 0] [8 9 4]]]");
        putSame(f, 16, 19);
        dueTree(f, "[[[11 12 7]] [[1 2 3] [5 6 0] [8 9 4]] [[14 15 10] [17 18 13] [16]]]");
        due("splits", f.count(6), 8);
        due("reinserts", f.count(7), 6);
        dueEntries(f, 0, 1, 3, 7);
        dueEntries(f, 1, 2);
        dueEntries(f, 3, 4, 5, 6);
        dueEntries(f, 7, 8, 9, 10);
        dueSound(f);
    }

    private static RectFile fourPoints(int wide, int high) {
        RectFile f = empty(3, 1, 1);
        f.put(0, 0, 0, 0, 0);
        f.put(1, wide, 0, wide, 0);
        f.put(2, 0, high, 0, high);
        f.put(3, wide, high, wide, high);
        return f;
    }

    private static void splitAxis() {
        about("SPLIT, the axis");
        dueTree(fourPoints(11, 10), "[[0 2] [1 3]]");
        dueTree(fourPoints(10, 10), "[[0 2] [1 3]]");
        dueTree(fourPoints(10, 11), "[[0 1] [2 3]]");
    }

    /** Rects of one height along x, put in the order in which they are told. */
    private static RectFile spans(int most, int least, int... ends) {
        RectFile f = empty(most, least, 1);
        for (int i = 0; i < ends.length / 2; i++) {
            f.put(i, ends[2 * i], 0, ends[2 * i + 1], 1);
        }
        return f;
    }

    private static void splitOrders() {
        about("SPLIT, the ORDERS and PARTINGS");
        // By the low side at least 3 would overlap, by the high one 2: the first of 1, 2, 0, 3.
        dueTree(spans(3, 1, 0, 10, 1, 3, 4, 6, 7, 12), "[[1] [2 0 3]]");
        // The widest gap has the least sum of AREAS.
        dueTree(spans(3, 1, 0, 10, 20, 30, 41, 50, 60, 70), "[[0 1] [2 3]]");
        dueTree(spans(3, 1, 0, 10, 21, 30, 40, 50, 60, 70), "[[0] [1 2 3]]");
        dueTree(spans(3, 1, 0, 10, 20, 30, 40, 50, 61, 70), "[[0 1 2] [3]]");
        // All gaps alike: the first.
        dueTree(spans(3, 1, 0, 10, 20, 30, 40, 50, 60, 70), "[[0] [1 2 3]]");
        dueTree(spans(3, 1, 60, 70, 40, 50, 20, 30, 0, 10), "[[3] [2 1 0]]");
        // The widest gap cannot be taken: m at least on both sides.
        dueTree(spans(4, 2, 0, 10, 50, 60, 70, 80, 90, 100, 110, 120), "[[0 1] [2 3 4]]");
        dueTree(spans(4, 2, 0, 10, 20, 30, 40, 50, 60, 70, 110, 120), "[[0 1] [2 3 4]]");
        dueTree(spans(4, 2, 0, 10, 20, 30, 40, 50, 61, 70, 110, 120), "[[0 1 2] [3 4]]");
    }

    private static RectFile rects(int... sides) {
        RectFile f = empty(3, 1, 1);
        for (int i = 0; i < sides.length / 4; i++) {
            f.put(i, sides[4 * i], sides[4 * i + 1], sides[4 * i + 2], sides[4 * i + 3]);
        }
        return f;
    }

    /** The same with x and y in each other's place: alike but where x goes ahead. */
    private static RectFile turned(int... sides) {
        int[] other = new int[sides.length];
        for (int i = 0; i < sides.length; i++) {
            other[i] = sides[i ^ 1];
        }
        return rects(other);
    }

    private static void splitOrdersAlike() {
        about("SPLIT, one side alike");
        // By the low side, then the high one: 1, 0, 2, 3.
        int[] low = {0, 0, 10, 1, 0, 0, 2, 1, 5, 0, 6, 1, 20, 0, 30, 1};
        dueTree(rects(low), "[[1 0 2] [3]]");
        dueTree(turned(low), "[[1 0 2] [3]]");
        // By the high side, then the low one: 0, 2, 3, 1; 2 would overlap, of the first ORDER 3 at least.
        int[] high = {1, 0, 3, 1, 7, 0, 10, 1, 4, 0, 6, 1, 0, 0, 10, 1};
        dueTree(rects(high), "[[0] [2 3 1]]");
        dueTree(turned(high), "[[0] [2 3 1]]");
    }

    private static void splitMargins() {
        about("SPLIT, MARGINS of both ORDERS");
        // x: 40 and 44, y: 40 and 43.
        dueTree(rects(0, 1, 1, 4, 1, 0, 2, 1, 0, 0, 3, 7, 0, 0, 3, 1), "[[1] [3 2 0]]");
        // x: 32 and 31, y: 31 and 31.
        dueTree(rects(1, 1, 4, 1, 2, 0, 2, 1, 0, 2, 1, 3, 6, 1, 6, 3), "[[1] [0 3 2]]");
        // x: 37 and 37, y: 36 and 40.
        dueTree(rects(0, 1, 1, 1, 0, 1, 0, 5, 4, 0, 6, 2, 2, 3, 2, 4), "[[1 0 3] [2]]");
        // x: 45 and 43, y: 43 and 44; by the high side none would overlap, with AREAS of 20 together.
        dueTree(rects(0, 0, 1, 2, 0, 1, 5, 1, 0, 4, 4, 5, 3, 0, 3, 4), "[[1] [0 3 2]]");
        about("SPLIT, OVERLAP ahead of AREAS");
        // None would overlap, with AREAS of 24; with 3 behind 2 and 0 2 would, with AREAS of 16.
        dueTree(rects(1, 1, 1, 2, 1, 2, 2, 9, 0, 1, 1, 2, 0, 1, 3, 4), "[[0] [2 3 1]]");
    }

    // ---- removed, shifted

    private static RectFile threeClusters() {
        RectFile f = empty(4, 2, 1);
        for (int i = 0; i < 4; i++) {
            putSquare(f, i, -900 + 20 * i, 0);
            putSquare(f, 4 + i, 100 + 20 * i, 0);
        }
        putSquare(f, 8, 200, 0);
        putSquare(f, 9, 220, 0);
        f.bulk();
        dueTree(f, "[[0 1 2 3] [4 5 6 7] [8 9]]");
        return f;
    }

    /** 8 is left and comes to the page of 4 to 7, which is REINSERTED; then 9 comes to that of 0 to 3: REINSERTED, too. */
    private static void shiftReinsertsInBoth() {
        about("SHIFTED: REINSERTED once on a LEVEL in each of both");
        RectFile f = threeClusters();
        int splits = f.count(6);
        int reinserts = f.count(7);
        due("pages", f.shift(9, -1040, 0), 5);
        dueTree(f, "[[0 1] [4 5] [6 7 8] [2 3 9]]");
        due("reinserts", f.count(7) - reinserts, 2);
        due("splits", f.count(6) - splits, 2);
        due("one ACT", f.count(8), 8);
        f.undo();
        dueTree(f, "[[0 1 2 3] [4 5 6 7] [8 9]]");
        due("reinserts", f.count(7), reinserts);
    }

    /** Two are left and come to two full pages: the first is REINSERTED, the second SPLIT at once, for it is one ACT. */
    private static void removeReinsertsOnce() {
        about("REMOVED: REINSERTED once on a LEVEL");
        RectFile f = empty(6, 3, 1);
        for (int i = 0; i < 6; i++) {
            putSquare(f, i, 20 * i, 0);
            putSquare(f, 6 + i, 20 * i, 100);
        }
        putSquare(f, 12, 140, 0);
        putSquare(f, 13, 140, 50);
        putSquare(f, 14, 140, 100);
        f.bulk();
        dueTree(f, "[[0 1 2 3 4 5] [6 7 8 9 10 11] [12 13 14]]");
        int splits = f.count(6);
        int reinserts = f.count(7);
        due("pages", f.remove(13), 5);
        dueTree(f, "[[0 1 2] [6 7 8] [3 4 5 12] [9 10 11 14]]");
        due("reinserts", f.count(7) - reinserts, 1);
        due("splits", f.count(6) - splits, 2);
        dueSound(f);
    }

    private static void rootLowered() {
        about("as long as the ROOT has one PAGE alone");
        RectFile f = tenPoints();
        for (int id = 0; id < 6; id++) {
            f.remove(id);
        }
        dueTree(f, "[[[9 8 7]] [[6]]]");
        due("two levels at once", f.remove(6), 1);
        dueTree(f, "[9 8 7]");
        due("levels", f.count(2), 1);
        dueSound(f);
        due("a ROOT of LEVEL 0 with one RECT stays", f.remove(9), 1);
        f.remove(8);
        dueTree(f, "[7]");
    }

    private static void shiftEdges() {
        about("SHIFTED to the edge and beyond");
        int[][] far = {{-996, 0}, {998, 0}, {0, -997}, {0, 999}};
        int[][] more = {{-1, 0}, {1, 0}, {0, -1}, {0, 1}};
        for (int i = 0; i < 4; i++) {
            RectFile f = told("page 3 1 1; rect 5 -4 -3 2 1");
            due("beyond", f.shift(5, far[i][0] + more[i][0], far[i][1] + more[i][1]), -2);
            dueRect(f, 5, -4, -3, 2, 1);
            due("no ACT", f.count(8), 0);
            due("to the edge", f.shift(5, far[i][0], far[i][1]), 1);
            dueRect(f, 5, -4 + far[i][0], -3 + far[i][1], 2 + far[i][0], 1 + far[i][1]);
            due("beyond", f.shift(5, more[i][0], more[i][1]), -2);
            due("an ACT", f.count(8), 1);
        }
        RectFile f = told("page 3 1 1; rect 5 -1000 -1000 1000 1000");
        due("nowhere to", f.shift(5, 1, 0), -2);
        due("stays", f.shift(5, 0, 0), 1);
        for (int d : new int[] {MIN, MIN + 1000, MAX, MAX - 999, 1 << 30}) {
            due("wraps round", f.shift(5, d, 0), -2);
            due("wraps round", f.shift(5, 0, d), -2);
            due("wraps round", f.shift(5, d, d), -2);
        }
        dueBox(f, 0, -1000, -1000, 1000, 1000);
    }

    // ---- tiles

    /** Points from the left above to the right below: by y they stand the other way round than by x. */
    private static RectFile tiled(int most, int least, int rects) {
        RectFile f = empty(most, least, 1);
        for (int i = 0; i < rects; i++) {
            f.put(i, i, -i, i, -i);
        }
        f.bulk();
        dueSound(f);
        return f;
    }

    private static void slices() {
        about("BULK, the SLICES");
        dueTree(tiled(3, 1, 0), "[]");
        dueTree(tiled(3, 1, 1), "[0]");
        dueTree(tiled(3, 1, 3), "[2 1 0]");
        dueTree(tiled(3, 1, 4), "[[3 2 1] [0]]");
        dueTree(tiled(3, 1, 6), "[[5 4 3] [2 1 0]]");
        // P 3, S 2: SLICES of 6.
        dueTree(tiled(3, 1, 7), "[[5 4 3] [2 1 0] [6]]");
        dueTree(tiled(3, 1, 9), "[[5 4 3] [2 1 0] [8 7 6]]");
        // P 4, S 2: SLICES of 6; P 5, S 3: SLICES of 9.
        dueTree(tiled(3, 1, 12), "[[[5 4 3] [2 1 0] [11 10 9]] [[8 7 6]]]");
        dueTree(tiled(3, 1, 13), "[[[8 7 6] [5 4 3] [2 1 0]] [[12 11 10] [9]]]");
        // P 9, S 3: SLICES of 9; P 10, S 4: SLICES of 12.
        RectFile f = tiled(3, 1, 27);
        dueEntries(f, 2, 8, 7, 6);
        f = tiled(3, 1, 28);
        due("levels", f.count(2), 4);
        dueEntries(f, 3, 11, 10, 9);
    }

    /** One more than fits: the last page takes from that ahead of it till it has m, on every level. */
    private static void lastPage(int most, int least) {
        about("BULK of M " + most + ", m " + least);
        RectFile f = empty(most, least, 1);
        putRow(f, 0, most);
        due("M", f.bulk(), 1);
        dueTree(f, row(0, most));
        putRow(f, most, most + 1);
        due("M and 1", f.bulk(), 3);
        dueTree(f, "[" + row(0, most + 1 - least) + " " + row(most + 1 - least, most + 1) + "]");
        putRow(f, most + 1, most + least);
        due("M and m", f.bulk(), 3);
        dueTree(f, "[" + row(0, most) + " " + row(most, most + least) + "]");
        putRow(f, most + least, 2 * most);
        due("twice M", f.bulk(), 3);
        dueTree(f, "[" + row(0, most) + " " + row(most, 2 * most) + "]");
        putRow(f, 2 * most, most * most);
        due("M times M", f.bulk(), most + 1);
        due("levels", f.count(2), 2);
        putRow(f, most * most, most * most + 1);
        due("M times M and 1", f.bulk(), most + 4);
        due("levels", f.count(2), 3);
        due("rects of the last", f.page(f.count(1) - 1, 5), least);
        due("pages of the first", f.page(1, 5), most + 1 - least);
        dueSound(f);
    }

    private static void bulkOfAll() {
        about("BULK of 100");
        RectFile f = tiled(3, 1, 100);
        // 34, 12, 4 and 2 pages, and the ROOT.
        due("pages", f.count(1), 53);
        due("levels", f.count(2), 5);
        f = tiled(8, 4, 100);
        // 13 pages: 12 of 8 and one of 4; then 8 and 5.
        due("pages", f.count(1), 16);
        f = tiled(8, 1, 8);
        due("pages", f.count(1), 1);
    }

    private static void bulkOrders() {
        about("BULK, by middles, then by ID");
        // One place by x1 + x2, whatever the sides are; one by y1 + y2: the least ID first.
        RectFile f = told("page 3 1 1;rect 9 0 0 10 10;rect 4 4 4 6 6;rect 7 5 5 5 5;rect 1 -90 -90 100 100");
        f.bulk();
        dueTree(f, "[[1 4 7] [9]]");
        // By y1 + y2, then x1 + x2.
        f = told("page 3 1 1;rect 1 9 5 9 5;rect 2 8 0 8 10;rect 3 7 5 7 5;rect 4 6 4 6 5");
        f.bulk();
        dueTree(f, "[[4 3 2] [1]]");
        // By 1 apart, and the other way round than by ID.
        f = told("page 3 1 1;rect 1 5 5 6 5;rect 2 5 5 5 5;rect 3 4 5 5 5;rect 4 4 5 4 5");
        f.bulk();
        dueTree(f, "[[4 3 2] [1]]");
        // The SLICE by x1 + x2, then y1 + y2, then ID: six of seven at one x are the first SLICE, by y, not by ID.
        f = told("page 3 1 1;rect 1 5 9 5 9;rect 2 5 8 5 8;rect 3 5 7 5 7;rect 4 5 6 5 6;rect 5 5 5 5 5;rect 6 5 4 5 4");
        f.put(7, 5, 3, 5, 3);
        f.bulk();
        dueTree(f, "[[7 6 5] [4 3 2] [1]]");
        f = empty(3, 1, 1);
        putSame(f, 0, 7);
        f.bulk();
        dueTree(f, "[[0 1 2] [3 4 5] [6]]");
    }

    private static void bulkKeepsCounts() {
        about("BULK, counts");
        RectFile f = empty(3, 1, 1);
        putSame(f, 0, 19);
        f.bulk();
        due("splits", f.count(6), 8);
        due("reinserts", f.count(7), 6);
        due("rects", f.count(0), 19);
    }

    // ---- grafts

    private static void graftEdges() {
        about("GRAFT, the first of these");
        RectFile f = tenPoints();
        int pages = f.count(1);
        due("the ROOT", f.graft(0, 0), NONE);
        due("the ROOT", f.graft(0, 5), NONE);
        due("the last PAGE", f.graft(pages - 1, 1), -5);
        due("behind the last", f.graft(pages, 1), NONE);
        due("into behind the last", f.graft(2, pages), NONE);
        due("below 0", f.graft(-1, 1), NONE);
        due("into below 0", f.graft(2, -1), NONE);
        due("MIN", f.graft(MIN, MAX), NONE);
        due("into a leaf, of another LEVEL, too", f.graft(1, 6), -3);
        due("into itself, a leaf", f.graft(2, 2), -3);
        due("into itself", f.graft(1, 1), -4);
        due("into what lies in it", f.graft(1, 2), -3);
        due("of LEVEL 0 into LEVEL 2", f.graft(6, 0), -4);
        due("of LEVEL 1 into LEVEL 1", f.graft(5, 1), -4);
        due("of LEVEL 0 into a full one, from one that would have too few", f.graft(6, 1), -5);
        due("full, and it lies there already", f.graft(3, 1), -5);
        due("it lies there already", f.graft(5, 0), -6);
    }

    private static void graftFullAndFew() {
        about("GRAFT, M and m");
        RectFile f = seventeenPoints();
        dueTree(f, "[[[0 1 2 3] [4 5 6 7] [8 9 10 11]] [[12 13 14] [15 16]]]");
        due("from one that has m", f.graft(6, 1), -6);
        due("from one that has m and 1", f.graft(3, 5), 3);
        dueTree(f, "[[[0 1 2 3] [8 9 10 11]] [[12 13 14] [15 16] [4 5 6 7]]]");
        dueBox(f, 1, 0, 0, 110, 0);
        dueBox(f, 4, 40, 0, 160, 0);
        due("from one that has m", f.graft(2, 4), -6);
        due("back", f.graft(5, 1), 3);
        dueTree(f, "[[[0 1 2 3] [8 9 10 11] [12 13 14]] [[15 16] [4 5 6 7]]]");
        for (int i = 17; i < 21; i++) {
            f.put(i, 10 * i, 0, 10 * i, 0);
        }
        f.bulk();
        dueTree(f, "[[[0 1 2 3] [4 5 6 7] [8 9 10 11] [12 13 14 15]] [[16 17 18] [19 20]]]");
        due("into a full one", f.graft(7, 1), -5);
        due("into one that has 2", f.graft(2, 6), 3);
        due("into one that has M less 1", f.graft(2, 5), 4);
        dueTree(f, "[[[8 9 10 11] [12 13 14 15]] [[16 17 18] [19 20] [0 1 2 3] [4 5 6 7]]]");
        due("into a full one", f.graft(2, 4), -5);
        dueSound(f);
    }

    private static void graftOneOfOne() {
        about("GRAFT, m 1");
        RectFile f = tenPoints();
        due("from one that has 1", f.graft(6, 5), -6);
        due("graft", f.graft(4, 5), 2);
        due("graft", f.graft(3, 4), 3);
        dueTree(f, "[[[5 4 3]] [[6] [9 8 7] [2 1 0]]]");
        due("from one that has 1", f.graft(2, 3), -5);
        f.remove(6);
        dueTree(f, "[[[5 4 3]] [[9 8 7] [2 1 0]]]");
        due("from one that has 1", f.graft(2, 3), -6);
        dueSound(f);
    }

    public static void main(String[] args) {
        atFirst();
        forAllSizes(TreeEdgesTest::fullRoot);
        forAllSizes(TreeEdgesTest::fewest);
        emptied();
        boxesGrow();
        overlaps();
        comesToLeaves();
        comesToBranches();
        reinsertsAlike();
        reinsertsFarthest();
        reinsertsSecond();
        reinsertsByWholeBox();
        reinsertsOnLevels();
        splitAxis();
        splitOrders();
        splitOrdersAlike();
        splitMargins();
        shiftReinsertsInBoth();
        removeReinsertsOnce();
        rootLowered();
        shiftEdges();
        slices();
        forAllSizes(TreeEdgesTest::lastPage);
        bulkOfAll();
        bulkOrders();
        bulkKeepsCounts();
        graftEdges();
        graftFullAndFew();
        graftOneOfOne();
        finish("tree edges");
    }
}
