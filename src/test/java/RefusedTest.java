import java.util.ArrayList;
import java.util.List;

/**
 * Every call that is refused, in many states: its answer, and that nothing happens. Two files are made alike; one of
 * them gets the refused call; then both must answer alike whatever is asked, undone, brought back and told.
 */
public final class RefusedTest extends Checks {
    private interface Call {
        long on(RectFile f);
    }

    private static final int STATES = 8;
    private static final int[] NO_SHELVES = {-1, 2, 3, MIN, MAX};
    private static final int[] FAR_OFF = {MIN, MIN + 1, -1, 100, MAX - 1, MAX};

    private static final List<String> names = new ArrayList<>();
    private static final List<Call> calls = new ArrayList<>();
    private static final List<Long> answers = new ArrayList<>();

    private static void refused(String name, long answer, Call call) {
        names.add(name);
        answers.add(answer);
        calls.add(call);
    }

    private static RectFile state(int which) {
        RectFile f = new RectFile();
        if (which == 0) {
            return f;
        }
        f.draws(77);
        if (which == 1) {
            feedText(f, "page 5 2 1");
            return f;
        }
        tell(f, "page 3 1 1");
        if (which == 2) {
            return f;
        }
        f = which == 3 ? twoColumns() : which == 4 ? seventeenPoints() : tenPoints();
        f.draws(78);
        f.keep(which % 2);
        if (which >= 6) {
            f.keep(1 - which % 2);
            f.graft(2, 5);
            f.drawn(20);
            f.remove(3);
            f.undo();
        }
        if (which == 7) {
            for (int i = 0; i < 5; i++) {
                f.drawn(20);
            }
        }
        feedText(f, "page 4 2 1; rect 1 0 0 5 5");
        return f;
    }

    private static void runAll(int which) {
        String want = allToTheEnd(state(which));
        for (int i = 0; i < calls.size(); i++) {
            about("state " + which + ", " + names.get(i));
            RectFile f = state(which);
            due("the call", calls.get(i).on(f), answers.get(i));
            dueText("nothing happens", allToTheEnd(f), want);
        }
        names.clear();
        calls.clear();
        answers.clear();
    }

    private static void refusedAlways(int which) {
        int bytes = state(which).count(10);
        for (int n : new int[] {-1, bytes + 1, 300, 301, MIN, MAX}) {
            refused("end " + n, NONE, f -> f.end(n));
        }
        for (int x : new int[] {-1, -2, MIN}) {
            refused("draws " + x, NONE, f -> f.draws(x));
        }
        for (int shelf : NO_SHELVES) {
            refused("keep " + shelf, NONE, f -> f.keep(shelf));
            refused("back " + shelf, NONE, f -> f.back(shelf));
            refused("same " + shelf, NONE, f -> f.same(shelf));
        }
        int kept = state(which).count(11);
        for (int shelf = 0; shelf <= 1; shelf++) {
            if ((kept >> shelf & 1) == 0) {
                int empty = shelf;
                refused("back " + shelf, -2, f -> f.back(empty));
                refused("same " + shelf, state(which).count(1) == 0 ? NONE : -2, f -> f.same(empty));
            }
        }
        for (int id : FAR_OFF) {
            refused("put " + id, NONE, f -> f.put(id, 0, 0, 1, 1));
            refused("remove " + id, NONE, f -> f.remove(id));
            refused("shift " + id, NONE, f -> f.shift(id, 0, 0));
            refused("rect " + id, MIN, f -> f.rect(id, 0));
            refused("page " + id, MIN, f -> f.page(id, 0));
            refused("entry " + id, NONE, f -> f.entry(id, 0));
            refused("graft " + id, NONE, f -> f.graft(id, 0));
            refused("graft into " + id, NONE, f -> f.graft(1, id));
            refused("count " + id, NONE, f -> f.count(id));
            refused("overlap " + id, NONE, f -> f.overlap(id));
            refused("grid " + id, 0, f -> f.grid(id));
        }
        for (int n : new int[] {-1, 0, 21, MIN, MAX}) {
            refused("drawn " + n, NONE, f -> f.drawn(n));
        }
        refused("graft of the ROOT", NONE, f -> f.graft(0, 1));
        if (state(which).count(8) == 0) {
            refused("undo", NONE, f -> f.undo());
        }
        refusedSides();
    }

    private static void refusedSides() {
        int[][] wrong = {{-1001, 0, 1, 1}, {0, -1001, 1, 1}, {0, 0, 1001, 1}, {0, 0, 1, 1001}, {2, 0, 1, 1}, {0, 2, 1, 1},
            {MIN, 0, 1, 1}, {0, 0, 1, MAX}, {MAX, MAX, MIN, MIN}};
        for (int[] s : wrong) {
            refused("put", NONE, f -> f.put(98, s[0], s[1], s[2], s[3]));
            refused("put", NONE, f -> f.put(0, s[0], s[1], s[2], s[3]));
            refused("choose", NONE, f -> f.choose(s[0], s[1], s[2], s[3]));
        }
        refused("window x", NONE, f -> f.window(1, 0, 0, 0, NONE));
        refused("window y", NONE, f -> f.window(0, 1, 0, 0, -2));
        refused("window k", NONE, f -> f.window(0, 0, 1, 1, -3));
        refused("nearest x", NONE, f -> f.nearest(2001, 0, 0, 0));
        refused("nearest y", NONE, f -> f.nearest(0, -2001, 0, 0));
        refused("nearest k", NONE, f -> f.nearest(0, 0, -1, 0));
        refused("nearest what", NONE, f -> f.nearest(0, 0, 0, 3));
        refused("cost w", NONE, f -> f.cost(2001, 0));
        refused("cost h", NONE, f -> f.cost(0, -1));
    }

    private static void refusedWithoutFile() {
        refused("put", NONE, f -> f.put(0, 0, 0, 1, 1));
        refused("remove", NONE, f -> f.remove(0));
        refused("shift", NONE, f -> f.shift(0, 1, 1));
        refused("bulk", NONE, f -> f.bulk());
        refused("graft", NONE, f -> f.graft(1, 0));
        refused("drawn", NONE, f -> f.drawn(1));
        refused("undo", NONE, f -> f.undo());
        refused("keep", NONE, f -> f.keep(0));
        refused("keep", NONE, f -> f.keep(1));
        refused("rect", MIN, f -> f.rect(0, 0));
        refused("page", MIN, f -> f.page(0, 4));
        refused("entry", NONE, f -> f.entry(0, 0));
        refused("choose", NONE, f -> f.choose(0, 0, 1, 1));
        refused("window", NONE, f -> f.window(0, 0, 1, 1, NONE));
        refused("window", NONE, f -> f.window(0, 0, 1, 1, -2));
        refused("window", NONE, f -> f.window(0, 0, 1, 1, 0));
        refused("nearest", NONE, f -> f.nearest(0, 0, 0, 0));
        refused("pairs", NONE, f -> f.pairs());
        refused("union", NONE, f -> f.union());
        refused("grid", 0, f -> f.grid(0));
        refused("grid", 0, f -> f.grid(1));
        refused("fill", NONE, f -> f.fill());
        refused("cost", NONE, f -> f.cost(1, 1));
        refused("overlap", NONE, f -> f.overlap(0));
        refused("same", NONE, f -> f.same(0));
        for (int what = 0; what <= 8; what++) {
            int which = what;
            refused("count " + what, 0, f -> f.count(which));
        }
    }

    private static void refusedWithFile(int which) {
        RectFile now = state(which);
        for (int id = 0; id < 100; id++) {
            int some = id;
            if (now.rect(id, 0) == MIN) {
                if (id % 9 == 0) {
                    refused("remove " + id, NONE, f -> f.remove(some));
                    refused("shift " + id, NONE, f -> f.shift(some, 0, 0));
                }
            } else if (id % 5 == 0) {
                refused("put " + id, -2, f -> f.put(some, 0, 0, 1, 1));
                refused("shift x", -2, f -> f.shift(some, 1001 - f.rect(some, 2), 0));
                refused("shift x", -2, f -> f.shift(some, -1001 - f.rect(some, 0), 0));
                refused("shift y", -2, f -> f.shift(some, 0, 1001 - f.rect(some, 3)));
                refused("shift y", -2, f -> f.shift(some, 0, -1001 - f.rect(some, 1)));
                refused("shift round", -2, f -> f.shift(some, MAX, MIN));
                refused("shift round", -2, f -> f.shift(some, 0, MIN));
            }
        }
        refused("nearest", -2, f -> f.nearest(0, 0, f.count(0), 0));
        refused("window", -3, f -> f.window(MIN, MIN, MAX, MAX, f.count(0)));
        refused("overlap", NONE, f -> f.overlap(f.count(2)));
        refused("page", MIN, f -> f.page(f.count(1), 4));
        refused("entry", NONE, f -> f.entry(0, f.page(0, 5)));
        refused("graft", NONE, f -> f.graft(f.count(1), 0));
        refused("graft into", NONE, f -> f.graft(1, f.count(1)));
        if (now.count(1) < 60) {
            refusedGrafts(which);
        }
    }

    /** Every two PAGES, by what the document tells of them: the first of the reasons that holds. */
    private static void refusedGrafts(int which) {
        RectFile now = state(which);
        for (int page = 1; page < now.count(1); page++) {
            for (int into = 0; into < now.count(1); into++) {
                int from = now.page(page, 6);
                int why = 0;
                if (now.page(into, 4) == 0) {
                    why = -3;
                } else if (now.page(into, 4) != now.page(page, 4) + 1) {
                    why = -4;
                } else if (now.page(into, 5) == now.count(3)) {
                    why = -5;
                } else if (from == into || now.page(from, 5) == (from == 0 ? 2 : now.count(4))) {
                    why = -6;
                }
                int some = page;
                int other = into;
                if (why != 0 && (why != -3 && why != -4 || page % 4 == 1)) {
                    refused("graft " + page + ", " + into, why, f -> f.graft(some, other));
                }
            }
        }
    }

    /** A full tape: no byte of a 16th feed comes, and those that are there stay. */
    private static void refusedFeed() {
        for (int bytes = 281; bytes <= 300; bytes++) {
            about("feed at " + bytes);
            RectFile f = twoColumns();
            RectFile twin = twoColumns();
            String text = "page 3 1 1;rect 1 0 0 0 0" + " ".repeat(bytes - 25);
            feedText(f, text);
            feedText(twin, text);
            due("feed", f.feed(0, 0, 0, 0, 0), NONE);
            due("feed", f.feed(MIN, MAX, -1, 1, 0x20202020), NONE);
            due("bytes", f.count(10), bytes);
            dueText("nothing happens", allToTheEnd(f), allToTheEnd(twin));
        }
        RectFile f = new RectFile();
        feedText(f, " ".repeat(280));
        due("feed at 280", f.feed(0, 0, 0, 0, 0), 300);
    }

    /** A text that is none: but for the tape nothing happens. */
    private static void refusedFile() {
        String[] texts = {"", "x", "page", "page 9 1 1", "page 4 2 1;", "page 4 2 1; rect 1 0 0 0 0; rect 1 0 0 0 0",
            "page 4 2 1; rect 1 0 0 0 0; rect 2 0 0 0 -1", "page 4 2 1; rect 1 0 0 0 0; rect 2 0 0 0 0 0"};
        for (int which = 0; which < STATES; which++) {
            RectFile twin = state(which);
            twin.end(0);
            String want = allToTheEnd(twin);
            for (String text : texts) {
                about("state " + which + ", file of " + text);
                RectFile f = state(which);
                due("a fault", tell(f, text) <= -3 ? 1 : 0, 1);
                due("bytes", f.count(10), 0);
                dueText("but for the tape nothing happens", allToTheEnd(f), want);
            }
        }
    }

    public static void main(String[] args) {
        for (int which = 0; which < STATES; which++) {
            refusedAlways(which);
            if (state(which).count(1) == 0) {
                refusedWithoutFile();
            } else {
                refusedWithFile(which);
            }
            runAll(which);
        }
        refusedFeed();
        refusedFile();
        finish("refused");
    }
}
