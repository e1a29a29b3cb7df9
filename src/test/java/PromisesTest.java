/** Each promise by itself, with answers worked out by hand from the document. */
public final class PromisesTest extends Checks {
    private static void newObject() {
        about("promise 1");
        RectFile f = new RectFile();
        for (int what = 0; what <= 11; what++) {
            due("count(" + what + ")", f.count(what), 0);
        }
        due("put", f.put(0, 0, 0, 1, 1), NONE);
        due("rect", f.rect(0, 0), MIN);
        due("undo", f.undo(), NONE);
        due("NONE", RectFile.NONE, -1);
    }

    private static void feed() {
        about("promise 2");
        RectFile f = new RectFile();
        for (int i = 1; i <= 15; i++) {
            due("feed " + i, f.feed(-1, 0, MIN, MAX, i), 20 * i);
        }
        due("feed 16", f.feed(0, 0, 0, 0, 0), NONE);
        due("count(10)", f.count(10), 300);
        f.end(281);
        due("feed to 301", f.feed(0, 0, 0, 0, 0), NONE);
        due("count(10)", f.count(10), 281);
        f.end(280);
        due("feed to 300", f.feed(0, 0, 0, 0, 0), 300);
        RectFile g = new RectFile();
        // "page", " 3 1", " 1  ": of each number the highest byte first.
        g.feed(0x70616765, 0x20332031, 0x20312020, 0x20202020, 0x20202020);
        due("file", g.file(), 0);
    }

    private static void end() {
        about("promise 3");
        RectFile f = new RectFile();
        due("end(0)", f.end(0), 0);
        due("end(1)", f.end(1), NONE);
        f.feed(0, 0, 0, 0, 0);
        due("end(21)", f.end(21), NONE);
        due("end(-1)", f.end(-1), NONE);
        due("end(MIN)", f.end(MIN), NONE);
        due("end(20)", f.end(20), 20);
        due("end(7)", f.end(7), 7);
        due("end(8)", f.end(8), NONE);
        due("count(10)", f.count(10), 7);
    }

    private static void fileFaults() {
        about("promise 4");
        dueFault("", 0, 1);
        dueFault("   ", 3, 1);
        dueFault("pag", 0, 1);
        dueFault(" pages 3 1 1", 1, 1);
        dueFault("Page 3 1 1", 0, 1);
        dueFault("pagez 3 1 1", 0, 1);
        dueFault("apage 3 1 1", 0, 1);
        dueFault("page{3 1 1", 4, 1);
        dueFault("page", 4, 1);
        dueFault("page  ", 6, 1);
        dueFault("page -3 1 1", 5, 1);
        dueFault("page x", 5, 1);
        dueFault("page 2 1 1", 5, 2);
        dueFault("page 9", 5, 2);
        dueFault("page 99999999999999999999 1 1", 5, 2);
        dueFault("page 311", 5, 2);
        dueFault("page 8 0 1", 7, 2);
        dueFault("page 8 5 1", 7, 2);
        dueFault("page 7 4 1", 7, 2);
        dueFault("page 8 4 0", 9, 2);
        dueFault("page 8 4 4", 9, 2);
        dueFault("page 3 1 1,", 10, 1);
        dueFault("page 3 1 1\t", 10, 1);
        dueFault("page 3 1 1rect", 10, 1);
        dueFault("page 3 1 1 1", 11, 1);
        dueFault("page 3 1 1;", 11, 1);
        dueFault("page 3 1 1;;", 11, 1);
        dueFault("page 3 1 1; rec 1", 12, 1);
        dueFault("page 3 1 1; rects", 12, 1);
        dueFault("page 3 1 1;rect", 15, 1);
        dueFault("page 3 1 1;rect -1 0 0 0 0", 16, 1);
        dueFault("page 3 1 1;rect 100", 16, 2);
        dueFault("page 3 1 1;rect 1 -1001", 18, 2);
        dueFault("page 3 1 1;rect 1 1001", 18, 2);
        dueFault("page 3 1 1;rect 1 - 1", 19, 1);
        dueFault("page 3 1 1;rect 1 -", 19, 1);
        dueFault("page 3 1 1;rect 1 --1", 19, 1);
        dueFault("page 3 1 1;rect 1 5 5 4 4", 22, 2);
        dueFault("page 3 1 1;rect 1 5 5 5 4", 24, 2);
        dueFault("page 3 1 1;rect 1 0 0 0 0 0", 26, 1);
        dueFault("page 3 1 1;rect 1 0 0 0 0;rect 1 0 0 0 0", 31, 3);
        dueFault("page 3 1 1;rect 1 0 0 0 0;rect 01", 31, 3);
        dueFault("page 3 1 1" + (char) 255, 10, 1);
    }

    private static void file() {
        about("promise 4");
        due("blanks as one likes", tell(new RectFile(), "  page3 1 1 ;rect1-5-5 5 5 ; rect 002 -0 0 0 00  "), 2);
        due("edges", tell(new RectFile(), "page8 4 3;rect99-1000-1000 1000 1000;rect0 1000 1000 1000 1000"), 2);
        StringBuilder twenty = new StringBuilder("page3 1 1");
        for (int i = 0; i < 20; i++) {
            twenty.append(";rect" + i + " 0 0 0 0");
        }
        due("twenty", tell(new RectFile(), twenty.toString()), 20);
        due("and on", tell(new RectFile(), twenty + ";"), -2 - (8 * 300 + 1));

        RectFile f = twoColumns();
        due("count(0)", f.count(0), 5);
        dueEntries(f, 0, 1, 2);
        dueEntries(f, 1, 0, 1);
        dueEntries(f, 2, 2, 3, 4);
        f.draws(77);
        f.keep(1);
        f.bulk();
        due("wrong text", tell(f, "page 3 1 1;"), -2 - (8 * 11 + 1));
        due("count(10)", f.count(10), 0);
        due("count(0)", f.count(0), 5);
        due("count(8)", f.count(8), 1);
        due("empty file", tell(f, "page 5 1 2"), 0);
        due("count(1)", f.count(1), 1);
        due("count(3)", f.count(3), 5);
        due("count(6)", f.count(6), 0);
        due("count(8)", f.count(8), 0);
        due("count(9)", f.count(9), 77);
        due("count(11)", f.count(11), 2);
    }

    private static void put() {
        about("promise 5");
        RectFile f = told("page 4 2 1");
        due("put 0", f.put(0, 0, 0, 10, 10), 1);
        due("put 0 again", f.put(0, 0, 0, 10, 10), -2);
        due("put 1", f.put(1, 0, 20, 10, 30), 1);
        due("put 2", f.put(2, 100, 0, 110, 10), 1);
        due("put 3", f.put(3, 100, 20, 110, 30), 1);
        due("put 4", f.put(4, 100, 40, 110, 50), 3);
        dueEntries(f, 1, 0, 1);
        dueEntries(f, 2, 2, 3, 4);
        due("splits", f.count(6), 1);
        due("reinserts", f.count(7), 0);
        due("id -1", f.put(-1, 0, 0, 1, 1), NONE);
        due("id 100", f.put(100, 0, 0, 1, 1), NONE);
        due("x1", f.put(9, -1001, 0, 1, 1), NONE);
        due("y1", f.put(9, 0, -1001, 1, 1), NONE);
        due("x2", f.put(9, 0, 0, 1001, 1), NONE);
        due("y2", f.put(9, 0, 0, 1, MAX), NONE);
        due("x1 above x2", f.put(9, 2, 0, 1, 1), NONE);
        due("y1 above y2", f.put(9, 0, 2, 1, 1), NONE);
        due("count(8)", f.count(8), 5);
        due("count(0)", f.count(0), 5);
        due("edges", f.put(99, -1000, -1000, 1000, 1000), 3);
    }

    /** A page that is too full puts its farthest in once more, and is split when it comes back. */
    private static void putReinserts() {
        about("promise 5");
        RectFile f = twoColumns();
        f.put(5, 100, 60, 110, 70);
        dueEntries(f, 2, 2, 3, 4, 5);
        // The middle of page 2 is at y 40: of 2 and 6, both 35 off, that which stands ahead goes out: 2.
        due("put 6", f.put(6, 100, 70, 110, 80), 4);
        due("reinserts", f.count(7), 1);
        due("splits", f.count(6), 2);
        dueEntries(f, 0, 1, 2, 3);
        dueEntries(f, 2, 2, 3);
        dueEntries(f, 3, 4, 5, 6);
    }

    private static void remove() {
        about("promise 6");
        RectFile f = twoColumns();
        due("remove 9", f.remove(9), NONE);
        due("remove -1", f.remove(-1), NONE);
        due("remove 100", f.remove(100), NONE);
        due("remove 2", f.remove(2), 3);
        dueEntries(f, 2, 3, 4);
        dueBox(f, 2, 100, 20, 110, 50);
        dueBox(f, 0, 0, 0, 110, 50);
        due("remove 2 again", f.remove(2), NONE);
        f.undo();
        due("remove 0", f.remove(0), 1);
        dueEntries(f, 0, 2, 3, 4, 1);
        due("count(2)", f.count(2), 1);
        due("remove 1", f.remove(1), 1);
        due("remove 2", f.remove(2), 1);
        due("remove 3", f.remove(3), 1);
        due("remove 4", f.remove(4), 1);
        due("count(0)", f.count(0), 0);
        due("box", f.page(0, 0), MIN);
    }

    /** A page that is empty goes out, then that which had it alone; the root is lowered. */
    private static void removeLast() {
        about("promise 6");
        RectFile f = tenPoints();
        due("remove 6", f.remove(6), 4);
        // Page 6 and page 5 went out, and the root has page 1 alone.
        due("count(2)", f.count(2), 2);
        dueEntries(f, 0, 1, 2, 3);
        dueEntries(f, 1, 5, 4, 3);
        dueEntries(f, 2, 2, 1, 0);
        dueEntries(f, 3, 9, 8, 7);
    }

    /** Pages that went out give back pages, too: these come ahead of the rectangles, and the root is lowered last. */
    private static void removeHigher() {
        about("promise 6");
        RectFile f = seventeenPoints();
        due("pages", f.count(1), 8);
        dueEntries(f, 1, 2, 3, 4);
        dueEntries(f, 5, 6, 7);
        dueEntries(f, 6, 12, 13, 14);
        dueEntries(f, 7, 15, 16);
        int splits = f.count(6);
        int reinserts = f.count(7);
        // Page 6 comes to page 1, then 16 to page 2, which puts 0 in once more and is split; then page 1 likewise.
        due("remove 15", f.remove(15), 8);
        dueEntries(f, 0, 1, 4);
        dueEntries(f, 1, 2, 3);
        dueEntries(f, 2, 0, 1);
        dueEntries(f, 3, 2, 3, 16);
        dueEntries(f, 4, 5, 6, 7);
        dueEntries(f, 5, 4, 5, 6, 7);
        dueEntries(f, 6, 8, 9, 10, 11);
        dueEntries(f, 7, 12, 13, 14);
        due("splits", f.count(6) - splits, 2);
        due("reinserts", f.count(7) - reinserts, 2);
        due("count(2)", f.count(2), 3);
    }

    private static void shift() {
        about("promise 7");
        RectFile f = twoColumns();
        due("without", f.shift(7, 0, 0), NONE);
        due("id", f.shift(-1, 0, 0), NONE);
        due("beyond x1", f.shift(0, -1001, 0), -2);
        due("beyond y1", f.shift(0, 0, -1001), -2);
        due("beyond x2", f.shift(0, 991, 0), -2);
        due("beyond y2", f.shift(0, 0, 991), -2);
        due("far beyond", f.shift(0, MAX, 0), -2);
        due("far beyond", f.shift(0, 0, MIN), -2);
        due("count(8)", f.count(8), 0);
        due("shift 1", f.shift(1, 100, 0), 3);
        dueRect(f, 1, 100, 20, 110, 30);
        // The margins of both axes are alike: x.
        dueEntries(f, 1, 0, 2);
        dueEntries(f, 2, 3, 4, 1);
        due("splits", f.count(6), 2);
        due("count(8)", f.count(8), 1);
        due("to the edge", f.shift(0, 990, -1000) > 0 ? 1 : 0, 1);
        dueRect(f, 0, 990, -1000, 1000, -990);
        due("to the edge", f.shift(1, -1100, 970) > 0 ? 1 : 0, 1);
        dueRect(f, 1, -1000, 990, -990, 1000);
        due("count(0)", f.count(0), 5);
    }

    private static void bulk() {
        about("promise 8");
        due("no file", new RectFile().bulk(), NONE);
        RectFile f = told("page 4 2 1");
        due("empty", f.bulk(), 1);
        due("count(8)", f.count(8), 1);
        f = twoColumns();
        due("five", f.bulk(), 3);
        dueEntries(f, 1, 0, 2, 1);
        dueEntries(f, 2, 3, 4);
        due("splits", f.count(6), 1);
        f = tenPoints();
        due("ten", f.bulk(), 7);
        due("count(2)", f.count(2), 3);
        dueEntries(f, 0, 1, 5);
        dueEntries(f, 1, 2, 3, 4);
        dueEntries(f, 2, 5, 4, 3);
        dueEntries(f, 3, 2, 1, 0);
        dueEntries(f, 4, 9, 8, 7);
        dueEntries(f, 5, 6);
        dueEntries(f, 6, 6);
    }

    private static void graft() {
        about("promise 9");
        due("no file", new RectFile().graft(1, 0), NONE);
        RectFile f = tenPoints();
        due("the root", f.graft(0, 1), NONE);
        due("no page", f.graft(7, 1), NONE);
        due("no page", f.graft(-1, 1), NONE);
        due("into none", f.graft(2, 7), NONE);
        due("into none", f.graft(2, -1), NONE);
        due("into rects", f.graft(2, 3), -3);
        due("level", f.graft(2, 0), -4);
        due("level", f.graft(5, 1), -4);
        due("full", f.graft(6, 1), -5);
        due("full ahead of there already", f.graft(2, 1), -5);
        due("there already", f.graft(6, 5), -6);
        due("there already", f.graft(1, 0), -6);
        due("count(8)", f.count(8), 8);
        due("graft", f.graft(2, 5), 2);
        dueEntries(f, 0, 1, 4);
        dueEntries(f, 1, 2, 3);
        dueEntries(f, 4, 5, 6);
        dueEntries(f, 5, 6);
        dueEntries(f, 6, 5, 4, 3);
        dueBox(f, 1, 0, 0, 90, 90);
        dueBox(f, 4, 30, 30, 60, 60);
        due("but one", f.graft(2, 4), 3);
        dueEntries(f, 0, 1, 3);
        dueEntries(f, 1, 2);
        dueEntries(f, 3, 4, 5, 6);
        dueBox(f, 1, 70, 0, 90, 20);
        f = tenPoints();
        f.remove(7);
        f.remove(8);
        f.remove(9);
        due("too few", f.graft(5, 1), -6);
        f = seventeenPoints();
        due("too few", f.graft(6, 1), -6);
        due("enough", f.graft(2, 5), 3);
        due("too few", f.graft(2, 4), -6);
    }

    private static long next(long x) {
        return (x * 1103515245L + 12345L) % 2147483648L;
    }

    private static void drawn() {
        about("promise 10");
        due("no file", new RectFile().drawn(1), NONE);
        RectFile f = told("page 5 2 2; rect 1 0 0 1 1");
        due("0", f.drawn(0), NONE);
        due("21", f.drawn(21), NONE);
        due("count(9)", f.count(9), 0);
        f.draws(5);
        due("drawn 2", f.drawn(2), 2);
        long[] x = new long[9];
        x[0] = 5;
        for (int i = 1; i < 9; i++) {
            x[i] = next(x[i - 1]);
        }
        for (int i = 0; i < 2; i++) {
            int x1 = (int) (x[4 * i + 1] / 65536 % 1801) - 900;
            int y1 = (int) (x[4 * i + 2] / 65536 % 1801) - 900;
            int x2 = x1 + (int) (x[4 * i + 3] / 65536 % 101);
            int y2 = y1 + (int) (x[4 * i + 4] / 65536 % 101);
            dueRect(f, 2 * i, x1, y1, x2, y2);
        }
        due("count(9)", f.count(9), x[8]);
        due("count(8)", f.count(8), 1);
        for (int i = 0; i < 4; i++) {
            due("drawn 20", f.drawn(20), 20);
        }
        due("drawn 20", f.drawn(20), 17);
        due("count(0)", f.count(0), 100);
        int seed = f.count(9);
        due("none free", f.drawn(3), 0);
        due("count(9)", f.count(9), seed);
    }

    private static void draws() {
        about("promise 11");
        RectFile f = new RectFile();
        due("draws(9)", f.draws(9), 0);
        due("draws(-1)", f.draws(-1), NONE);
        due("draws(MIN)", f.draws(MIN), NONE);
        due("draws(MAX)", f.draws(MAX), 9);
        due("draws(0)", f.draws(0), MAX);
        due("count(9)", f.count(9), 0);
    }

    private static void undo() {
        about("promise 12");
        RectFile f = twoColumns();
        due("none", f.undo(), NONE);
        f.keep(0);
        f.draws(3);
        f.drawn(9);
        f.draws(4);
        due("undo", f.undo(), 0);
        due("same", f.same(0), 1);
        due("count(9)", f.count(9), 3);
        due("splits", f.count(6), 1);
        due("reinserts", f.count(7), 0);
        f.put(50, 0, 0, 1, 1);
        f.keep(1);
        f.bulk();
        f.shift(0, 1, 1);
        f.remove(1);
        f.drawn(1);
        f.put(60, 1, 1, 2, 2);
        f.remove(60);
        f.bulk();
        due("count(8)", f.count(8), 8);
        f.bulk();
        due("count(8)", f.count(8), 8);
        for (int left = 7; left >= 0; left--) {
            due("undo", f.undo(), left);
        }
        due("none more", f.undo(), NONE);
        due("same", f.same(1), 1);
        RectFile g = tenPoints();
        g.keep(0);
        g.graft(2, 5);
        due("same", g.same(0), 0);
        due("undo graft", g.undo(), 7);
        due("same", g.same(0), 1);
    }

    private static void keepAndBack() {
        about("promise 13");
        due("no file", new RectFile().keep(0), NONE);
        RectFile f = twoColumns();
        due("keep 2", f.keep(2), NONE);
        due("keep -1", f.keep(-1), NONE);
        due("count(11)", f.count(11), 0);
        due("keep 1", f.keep(1), 5);
        due("count(11)", f.count(11), 2);
        due("keep 0", f.keep(0), 5);
        due("count(11)", f.count(11), 3);

        about("promise 14");
        due("no shelf", f.back(2), NONE);
        due("no shelf", f.back(-1), NONE);
        due("nothing", new RectFile().back(1), -2);
        f.draws(8);
        f.remove(0);
        f.remove(1);
        f.keep(0);
        tell(f, "page 8 4 3; rect 7 1 1 1 1");
        f.put(8, 0, 0, 0, 0);
        due("back 1", f.back(1), 5);
        due("count(3)", f.count(3), 4);
        due("count(6)", f.count(6), 1);
        due("count(8)", f.count(8), 0);
        due("count(9)", f.count(9), 8);
        due("undo", f.undo(), NONE);
        dueEntries(f, 2, 2, 3, 4);
        f.remove(2);
        due("back 1 again", f.back(1), 5);
        due("back 0", f.back(0), 3);
        dueEntries(f, 0, 2, 3, 4);
    }

    private static void rect() {
        about("promise 15");
        RectFile f = tenPoints();
        dueRect(f, 9, 90, 0, 90, 0);
        due("rect(9, 4)", f.rect(9, 4), 4);
        due("rect(6, 4)", f.rect(6, 4), 6);
        due("rect(5, 4)", f.rect(5, 4), 2);
        due("rect(9, 5)", f.rect(9, 5), MIN);
        due("rect(9, -1)", f.rect(9, -1), MIN);
        due("rect(10, 0)", f.rect(10, 0), MIN);
        due("rect(-1, 0)", f.rect(-1, 0), MIN);
        due("rect(100, 0)", f.rect(100, 0), MIN);
        f.remove(9);
        due("rect(9, 0)", f.rect(9, 0), MIN);
    }

    private static void page() {
        about("promise 16");
        RectFile f = tenPoints();
        dueBox(f, 0, 0, 0, 90, 90);
        dueBox(f, 4, 70, 0, 90, 20);
        int[] levels = {2, 1, 0, 0, 0, 1, 0};
        int[] sizes = {2, 3, 3, 3, 3, 1, 1};
        int[] homes = {NONE, 0, 1, 1, 1, 0, 5};
        int[] rects = {10, 9, 3, 3, 3, 1, 1};
        for (int i = 0; i < 7; i++) {
            due("page(" + i + ", 4)", f.page(i, 4), levels[i]);
            due("page(" + i + ", 5)", f.page(i, 5), sizes[i]);
            due("page(" + i + ", 6)", f.page(i, 6), homes[i]);
            due("page(" + i + ", 7)", f.page(i, 7), rects[i]);
        }
        due("page(7, 4)", f.page(7, 4), MIN);
        due("page(-1, 4)", f.page(-1, 4), MIN);
        due("page(0, 8)", f.page(0, 8), MIN);
        due("page(0, -1)", f.page(0, -1), MIN);
        due("no file", new RectFile().page(0, 4), MIN);
        due("empty", told("page 3 1 1").page(0, 3), MIN);
    }

    private static void entry() {
        about("promise 17");
        RectFile f = tenPoints();
        dueEntries(f, 0, 1, 5);
        dueEntries(f, 4, 9, 8, 7);
        due("entry(0, -1)", f.entry(0, -1), NONE);
        due("entry(7, 0)", f.entry(7, 0), NONE);
        due("entry(-1, 0)", f.entry(-1, 0), NONE);
        due("entry(0, MAX)", f.entry(0, MAX), NONE);
        due("no file", new RectFile().entry(0, 0), NONE);
    }

    private static void choose() {
        about("promise 18");
        due("no file", new RectFile().choose(0, 0, 1, 1), NONE);
        due("empty", told("page 3 1 1").choose(0, 0, 1, 1), 0);
        RectFile f = twoColumns();
        due("least growth", f.choose(12, 0, 14, 10), 1);
        due("least growth", f.choose(90, 0, 95, 10), 2);
        due("least overlap", f.choose(9, 0, 105, 1), 2);
        due("beyond", f.choose(0, 0, 1001, 0), NONE);
        due("beyond", f.choose(-1001, 0, 0, 0), NONE);
        due("x", f.choose(2, 0, 1, 1), NONE);
        due("y", f.choose(0, 2, 1, 1), NONE);
        due("count(8)", f.count(8), 0);
        RectFile g = told("page 3 1 1; rect 0 0 0 0 0; rect 1 10 0 10 0; rect 2 20 0 20 0; rect 3 30 0 30 0");
        // Boxes without area: all is alike, and the first one is taken.
        due("first", g.choose(30, 0, 30, 0), 1);
    }

    private static void window() {
        about("promise 19");
        due("no file", new RectFile().window(0, 0, 1, 1, -1), NONE);
        RectFile f = twoColumns();
        due("all", f.window(MIN, MIN, MAX, MAX, -1), 5);
        due("all pages", f.window(MIN, MIN, MAX, MAX, -2), 3);
        due("an edge", f.window(10, 10, 100, 20, -1), 4);
        due("an edge, pages", f.window(10, 10, 100, 20, -2), 3);
        due("ids", f.window(10, 10, 100, 20, 0), 0);
        due("ids", f.window(10, 10, 100, 20, 3), 3);
        due("not so many", f.window(10, 10, 100, 20, 4), -3);
        due("between", f.window(11, 0, 99, 50, -1), 0);
        due("between, pages", f.window(11, 0, 99, 50, -2), 1);
        due("beyond, pages", f.window(500, 500, 500, 500, -2), 1);
        due("in a page only", f.window(0, 15, 10, 15, -1), 0);
        due("in a page only, pages", f.window(0, 15, 10, 15, -2), 2);
        due("k", f.window(0, 0, 1, 1, -3), NONE);
        due("x", f.window(1, 0, 0, 0, -1), NONE);
        due("y", f.window(0, 1, 0, 0, -1), NONE);
        due("not so many", f.window(MIN, MIN, MAX, MAX, MAX), -3);
    }

    private static void nearest() {
        about("promise 20");
        due("no file", new RectFile().nearest(0, 0, 0, 0), NONE);
        RectFile f = twoColumns();
        due("0th", f.nearest(-3, -4, 0, 0), 0);
        due("0th far", f.nearest(-3, -4, 0, 1), 25);
        due("0th pages", f.nearest(-3, -4, 0, 2), 2);
        due("1st", f.nearest(-3, -4, 1, 0), 1);
        due("1st far", f.nearest(-3, -4, 1, 1), 9 + 24 * 24);
        due("1st pages", f.nearest(-3, -4, 1, 2), 2);
        due("2nd", f.nearest(-3, -4, 2, 0), 2);
        due("2nd pages", f.nearest(-3, -4, 2, 2), 3);
        due("5th", f.nearest(-3, -4, 5, 0), -2);
        due("MAX", f.nearest(0, 0, MAX, 0), -2);
        // 55 is as far from both pages, and these are opened ahead of the rectangles.
        due("midst", f.nearest(55, 5, 0, 0), 0);
        due("midst, pages", f.nearest(55, 5, 0, 2), 3);
        due("midst, next", f.nearest(55, 5, 1, 0), 2);
        due("the edge", f.nearest(-2000, 2000, 0, 1), 2000 * 2000 + 1970 * 1970);
        due("the edge", f.nearest(2000, -2000, 0, 1), 1890 * 1890 + 2000 * 2000);
        due("x", f.nearest(2001, 0, 0, 0), NONE);
        due("x", f.nearest(-2001, 0, 0, 0), NONE);
        due("y", f.nearest(0, 2001, 0, 0), NONE);
        due("y", f.nearest(0, -2001, 0, 0), NONE);
        due("k", f.nearest(0, 0, -1, 0), NONE);
        due("what", f.nearest(0, 0, 0, 3), NONE);
        due("what", f.nearest(0, 0, 0, -1), NONE);
        due("empty", told("page 3 1 1").nearest(0, 0, 0, 0), -2);
    }

    private static void pairs() {
        about("promise 21");
        due("no file", new RectFile().pairs(), NONE);
        due("empty", told("page 3 1 1").pairs(), 0);
        RectFile f = told("page 8 1 1; rect 5 0 0 10 10; rect 4 10 10 20 20; rect 3 20 0 30 10; rect 2 0 11 9 12");
        // 5 and 4 have a corner, 4 and 3 a corner in common; 2 meets none.
        due("pairs", f.pairs(), 2);
        f.put(9, 5, 5, 5, 11);
        due("pairs", f.pairs(), 4);
    }

    private static void union() {
        about("promise 22");
        due("no file", new RectFile().union(), NONE);
        due("empty", told("page 3 1 1").union(), 0);
        RectFile f = told("page 8 1 1; rect 5 0 0 10 10; rect 4 5 5 15 15; rect 3 5 5 15 15; rect 2 -50 3 50 3");
        due("union", f.union(), 175);
        f.put(9, -1000, -1000, 1000, 1000);
        due("union", f.union(), 4000000);
        due("columns", twoColumns().union(), 500);
    }

    private static void grid() {
        about("promise 23");
        due("no file", new RectFile().grid(0), 0);
        RectFile f = told("page 3 1 1; rect 0 -1 -1 0 0");
        due("four", f.grid(0), 1L << 27 | 1L << 28 | 1L << 35 | 1L << 36);
        due("of 2", f.grid(2), 0);
        due("of -1", f.grid(-1), 0);
        due("low side", told("page 3 1 1; rect 0 256 -1000 256 -1000").grid(0), 1L << 5);
        due("high side", told("page 3 1 1; rect 0 255 1000 255 1000").grid(0), 1L << 60);
        due("all", told("page 3 1 1; rect 0 -1000 -1000 1000 1000").grid(0), -1L);
        RectFile g = told("page 3 1 1; rect 0 -1000 0 -1000 0; rect 1 1000 0 1000 0");
        due("rects", g.grid(0), 1L << 32 | 1L << 39);
        due("pages", g.grid(1), 255L << 32);
        due("empty", told("page 3 1 1").grid(1), 0);
    }

    private static void fill() {
        about("promise 24");
        due("no file", new RectFile().fill(), NONE);
        due("empty", told("page 3 1 1").fill(), 0);
        due("full", told("page 3 1 1;rect 0 0 0 0 0;rect 1 0 0 0 0;rect 2 0 0 0 0").fill(), Float.floatToIntBits(1.0f));
        due("columns", twoColumns().fill(), Float.floatToIntBits(7.0f / 12.0f));
        due("ten", tenPoints().fill(), Float.floatToIntBits(16.0f / 21.0f));
    }

    private static void cost() {
        about("promise 25");
        due("no file", new RectFile().cost(0, 0), NONE);
        due("empty", told("page 3 1 1").cost(2000, 2000), 0);
        RectFile f = twoColumns();
        double sum = 112.0 * 53.0 + 12.0 * 33.0 + 12.0 * 53.0;
        due("columns", f.cost(2, 3), Double.doubleToLongBits(sum / 4000000.0));
        due("w -1", f.cost(-1, 0), NONE);
        due("h -1", f.cost(0, -1), NONE);
        due("w 2001", f.cost(2001, 0), NONE);
        due("h 2001", f.cost(0, 2001), NONE);
        RectFile g = told("page 3 1 1; rect 0 -1000 -1000 1000 1000");
        due("above 1", g.cost(2000, 2000), Double.doubleToLongBits(4.0));
    }

    private static void overlap() {
        about("promise 26");
        due("no file", new RectFile().overlap(0), NONE);
        RectFile f = tenPoints();
        due("leaves", f.overlap(0), 0);
        due("level 1", f.overlap(1), 0);
        due("root", f.overlap(2), 0);
        due("level 3", f.overlap(3), NONE);
        due("level -1", f.overlap(-1), NONE);
        f.graft(2, 5);
        // 0, 0 to 90, 90 and 30, 30 to 60, 60.
        due("grafted", f.overlap(1), 900);
    }

    private static void same() {
        about("promise 27");
        RectFile f = twoColumns();
        due("no file", new RectFile().same(0), NONE);
        due("nothing", f.same(0), -2);
        due("shelf", f.same(2), NONE);
        due("shelf", f.same(-1), NONE);
        f.keep(0);
        due("same", f.same(0), 1);
        f.shift(4, 1, 0);
        due("shifted", f.same(0), 0);
        f.shift(4, -1, 0);
        due("shifted back", f.same(0), 1);
        f.shift(2, 0, 0);
        due("another order", f.same(0), 0);
        f.undo();
        due("undone", f.same(0), 1);
        RectFile g = told("page 4 2 1; rect 0 0 0 1 1; rect 1 5 5 6 6");
        g.keep(0);
        tell(g, "page 8 1 3; rect 0 0 0 1 1; rect 1 5 5 6 6");
        due("told anew", g.same(0), 1);
        tell(g, "page 8 1 3; rect 0 0 0 1 1; rect 2 5 5 6 6");
        due("other id", g.same(0), 0);
        tell(g, "page 8 1 3; rect 0 0 0 1 1; rect 1 5 5 6 7");
        due("other side", g.same(0), 0);
    }

    private static void count() {
        about("promise 28");
        RectFile f = tenPoints();
        f.draws(6);
        f.keep(0);
        f.feed(0, 0, 0, 0, 0);
        int[] want = {10, 7, 3, 3, 1, 1};
        for (int what = 0; what < want.length; what++) {
            due("count(" + what + ")", f.count(what), want[what]);
        }
        due("count(8)", f.count(8), 8);
        due("count(9)", f.count(9), 6);
        due("count(10)", f.count(10), 20);
        due("count(11)", f.count(11), 1);
        due("count(12)", f.count(12), NONE);
        due("count(-1)", f.count(-1), NONE);
        due("count(6) of columns", twoColumns().count(6), 1);
        due("count(7) of columns", twoColumns().count(7), 0);
    }

    /** What README.md shows. */
    private static void readme() {
        about("README.md");
        RectFile f = new RectFile();
        due("feed", f.feed(0x70616765, 0x20332031, 0x20313B72, 0x65637420, 0x37203020), 20);
        due("feed", f.feed(0x30203130, 0x20313000, 0, 0, 0), 40);
        due("end", f.end(27), 27);
        due("file", f.file(), 1);
        due("put", f.put(8, 20, 0, 30, 10), 1);
        due("window", f.window(5, 5, 25, 25, RectFile.NONE), 2);
        due("window", f.window(5, 5, 25, 25, 1), 8);
        due("nearest", f.nearest(40, 0, 0, 1), 100);
        due("undo", f.undo(), 0);
        due("count", f.count(0), 1);
    }

    public static void main(String[] args) {
        newObject();
        feed();
        end();
        fileFaults();
        file();
        put();
        putReinserts();
        remove();
        removeLast();
        removeHigher();
        shift();
        bulk();
        graft();
        drawn();
        draws();
        undo();
        keepAndBack();
        rect();
        page();
        entry();
        choose();
        window();
        nearest();
        pairs();
        union();
        grid();
        fill();
        cost();
        overlap();
        same();
        count();
        readme();
        finish("promises");
    }
}
