/** What the tests of answers share: answers that are due, texts that are fed, files to begin with. */
abstract class Checks {
    static final int NONE = RectFile.NONE;
    static final int MIN = Integer.MIN_VALUE;
    static final int MAX = Integer.MAX_VALUE;
    private static int wrong = 0;
    private static String heading = "";

    /** What the next answers are about. */
    static void about(String what) {
        heading = what;
    }

    static void due(String what, long got, long want) {
        if (got != want) {
            tellWrong(what + " answered " + got + ", due is " + want);
        }
    }

    static void dueText(String what, String got, String want) {
        if (!got.equals(want)) {
            tellWrong(what + ":\n  got " + got + "\n  due " + want);
        }
    }

    static void tellWrong(String what) {
        wrong++;
        System.out.println(heading + ": " + what);
    }

    /** The last call of a test: its exit code tells whether an answer was wrong. */
    static void finish(String name) {
        System.out.println(wrong == 0 ? name + ": all answers are as due" : name + ": " + wrong + " wrong");
        if (wrong != 0) {
            System.exit(1);
        }
    }

    // ---- texts

    /** Feeds a text behind the tape as far as it has room, then ends the tape behind it. */
    static int feedText(RectFile f, String text) {
        int before = f.count(10);
        int bytes = before;
        for (int i = 0; i < text.length(); i += 20) {
            int[] n = new int[5];
            for (int j = 0; j < 20; j++) {
                n[j / 4] = n[j / 4] << 8 | (i + j < text.length() ? text.charAt(i + j) : 0);
            }
            bytes = f.feed(n[0], n[1], n[2], n[3], n[4]);
        }
        return bytes < before + text.length() ? bytes : f.end(before + text.length());
    }

    static int tell(RectFile f, String text) {
        f.end(0);
        feedText(f, text);
        return f.file();
    }

    static RectFile told(String text) {
        RectFile f = new RectFile();
        if (tell(f, text) < 0) {
            tellWrong("no file told by " + text);
        }
        return f;
    }

    static void dueTaken(String text, int rects) {
        due("file of \"" + text + "\"", tell(new RectFile(), text), rects);
    }

    static void dueFault(String text, int place, int kind) {
        due("file of \"" + text + "\"", tell(new RectFile(), text), -2 - (8 * place + kind));
    }

    // ---- trees

    static void dueEntries(RectFile f, int page, int... entries) {
        due("page(" + page + ", 5)", f.page(page, 5), entries.length);
        for (int i = 0; i < entries.length; i++) {
            due("entry(" + page + ", " + i + ")", f.entry(page, i), entries[i]);
        }
        due("entry(" + page + ", " + entries.length + ")", f.entry(page, entries.length), NONE);
    }

    static void dueBox(RectFile f, int page, int x1, int y1, int x2, int y2) {
        due("page(" + page + ", 0)", f.page(page, 0), x1);
        due("page(" + page + ", 1)", f.page(page, 1), y1);
        due("page(" + page + ", 2)", f.page(page, 2), x2);
        due("page(" + page + ", 3)", f.page(page, 3), y2);
    }

    static void dueRect(RectFile f, int id, int x1, int y1, int x2, int y2) {
        due("rect(" + id + ", 0)", f.rect(id, 0), x1);
        due("rect(" + id + ", 1)", f.rect(id, 1), y1);
        due("rect(" + id + ", 2)", f.rect(id, 2), x2);
        due("rect(" + id + ", 3)", f.rect(id, 3), y2);
    }

    /** The tree by its rectangles: a page in brackets, as "[[0 1] [2 3 4]]". */
    static String tree(RectFile f) {
        return f.count(1) == 0 ? "none" : tree(f, 0);
    }

    private static String tree(RectFile f, int page) {
        StringBuilder b = new StringBuilder("[");
        for (int i = 0; i < f.page(page, 5); i++) {
            int entry = f.entry(page, i);
            b.append(i == 0 ? "" : " ").append(f.page(page, 4) == 0 ? "" + entry : tree(f, entry));
        }
        return b.append(']').toString();
    }

    static void dueTree(RectFile f, String want) {
        dueText("tree", tree(f), want);
    }

    // ---- files to begin with

    /** Two columns: 0 and 1 in page 1, 2, 3 and 4 in page 2, split along x. */
    static RectFile twoColumns() {
        return told("page 4 2 1; rect 0 0 0 10 10; rect 1 0 20 10 30;"
                + " rect 2 100 0 110 10; rect 3 100 20 110 30; rect 4 100 40 110 50");
    }

    /** Ten points from the left above to the right below, laid in tiles: pages 2 to 4 in 1, 6 in 5. */
    static RectFile tenPoints() {
        RectFile f = told("page 3 1 1");
        for (int i = 0; i < 10; i++) {
            f.put(i, 10 * i, 90 - 10 * i, 10 * i, 90 - 10 * i);
        }
        f.bulk();
        return f;
    }

    /** A row of points, laid in tiles with two at least in a page: pages 2 to 4 in 1, 6 and 7 in 5. */
    static RectFile seventeenPoints() {
        RectFile f = told("page 4 2 1");
        for (int i = 0; i < 17; i++) {
            f.put(i, 10 * i, 0, 10 * i, 0);
        }
        f.bulk();
        return f;
    }

    /** A square with sides of 10. */
    static int putSquare(RectFile f, int id, int x, int y) {
        return f.put(id, x, y, x + 10, y + 10);
    }

    // ---- all that can be asked

    /** Every answer of every question, but for those that change something: two files alike in it are alike. */
    static String all(RectFile f) {
        StringBuilder b = new StringBuilder("count");
        for (int what = 0; what <= 11; what++) {
            b.append(' ').append(f.count(what));
        }
        b.append("\nrects");
        for (int id = 0; id < 100; id++) {
            for (int what = 0; what <= 4 && f.rect(id, 0) != MIN; what++) {
                b.append(what == 0 ? "; " + id + ":" : "").append(' ').append(f.rect(id, what));
            }
        }
        b.append("\npages ").append(tree(f));
        for (int page = 0; page < f.count(1); page++) {
            for (int what = 0; what <= 7; what++) {
                b.append(what == 0 ? ";" : "").append(' ').append(f.page(page, what));
            }
        }
        b.append("\nasked ").append(f.pairs()).append(' ').append(f.union()).append(' ').append(f.grid(0)).append(' ');
        b.append(f.grid(1)).append(' ').append(f.fill()).append(' ').append(f.cost(3, 7));
        for (int level = 0; level <= f.count(2); level++) {
            b.append(' ').append(f.overlap(level));
        }
        for (int x = -600; x <= 600; x += 400) {
            b.append("; ").append(f.choose(x, 0, x + 100, 50)).append(' ').append(f.window(x, x, x + 500, 500, -1));
            b.append(' ').append(f.window(x, x, x + 500, 500, -2)).append(' ').append(f.window(x, x, x + 500, 500, 1));
            b.append(' ').append(f.nearest(x, 0, 1, 0)).append(' ').append(f.nearest(x, 0, 1, 1));
            b.append(' ').append(f.nearest(x, 0, 1, 2));
        }
        return b.append("; ").append(f.same(0)).append(' ').append(f.same(1)).toString();
    }

    /** All that can be asked, then what can only be asked by changing it: the acts undone, the shelves, the tape. */
    static String allToTheEnd(RectFile f) {
        StringBuilder b = new StringBuilder(all(f));
        for (int i = 0; i < 10; i++) {
            b.append("\nundo ").append(f.undo()).append('\n').append(all(f));
        }
        for (int shelf = 0; shelf <= 1; shelf++) {
            b.append("\nback ").append(f.back(shelf)).append('\n').append(all(f));
        }
        b.append("\nfile ").append(f.file()).append('\n').append(all(f));
        return b.append("\nfile ").append(f.file()).toString();
    }

    // ---- what holds of every tree

    /** What the document tells of all pages: how many entries, boxes, levels, numbers. */
    static void dueSound(RectFile f) {
        int pages = f.count(1);
        int rects = 0;
        int[] next = {1};
        for (int page = 0; page < pages; page++) {
            int size = f.page(page, 5);
            int level = f.page(page, 4);
            boolean root = f.page(page, 6) == NONE;
            int least = !root ? f.count(4) : level > 0 ? 2 : 0;
            if (root != (page == 0) || size < least || size > f.count(3)) {
                tellWrong("page " + page + " has " + size + " entries");
            }
            dueSoundBox(f, page);
            rects += level == 0 ? size : 0;
        }
        due("levels", f.count(2), f.page(0, 4) + 1);
        due("rects in leaves", rects, f.count(0));
        due("rects below the root", f.page(0, 7), f.count(0));
        dueNumbered(f, 0, next);
        due("pages numbered", next[0], pages);
    }

    private static void dueSoundBox(RectFile f, int page) {
        int[] box = {MAX, MAX, MIN, MIN};
        boolean leaf = f.page(page, 4) == 0;
        int size = f.page(page, 5);
        for (int i = 0; i < size; i++) {
            int entry = f.entry(page, i);
            for (int what = 0; what < 4; what++) {
                int side = leaf ? f.rect(entry, what) : f.page(entry, what);
                box[what] = what < 2 ? Math.min(box[what], side) : Math.max(box[what], side);
            }
            due("page of an entry", leaf ? f.rect(entry, 4) : f.page(entry, 6), page);
            if (!leaf) {
                due("level of an entry", f.page(entry, 4), f.page(page, 4) - 1);
            }
        }
        if (size == 0) {
            dueBox(f, page, MIN, MIN, MIN, MIN);
        } else {
            dueBox(f, page, box[0], box[1], box[2], box[3]);
        }
    }

    private static void dueNumbered(RectFile f, int page, int[] next) {
        for (int i = 0; i < f.page(page, 5) && f.page(page, 4) > 0; i++) {
            due("number of a page", f.entry(page, i), next[0]);
            next[0]++;
            dueNumbered(f, f.entry(page, i), next);
        }
    }
}
