import java.util.Random;

/** Runs of random calls on RectFile and on PlainFile: every answer must be alike. */
public final class RandomRunsTest {
    private static int wrong = 0;
    private static int deepest = 0;
    private static final int[] ODD = {Integer.MIN_VALUE, Integer.MAX_VALUE, -1001, 1001, -2001, 2001, -1, 0, 100, 2000};

    private final Random random;
    private final RectFile real = new RectFile();
    private final PlainFile plain = new PlainFile();
    private final StringBuilder log = new StringBuilder();
    private final int span;
    private final int wide;
    private final int style;
    private final int bias;

    private RandomRunsTest(long seed) {
        random = new Random(seed);
        int[] spans = {2, 4, 10, 100, 1000};
        span = spans[random.nextInt(spans.length)];
        wide = new int[] {0, 1, 5, 100, 2000}[random.nextInt(5)];
        style = random.nextInt(5);
        bias = random.nextInt(4);
    }

    static String text(Random random, int span, int wide, int most) {
        int big = 3 + random.nextInt(6);
        int least = 1 + random.nextInt(Math.min(4, big / 2));
        int again = 1 + random.nextInt(Math.min(3, big + 1 - least));
        StringBuilder text = new StringBuilder("page " + big + " " + least + " " + again);
        int rects = most == 0 ? 0 : random.nextInt(most + 1);
        int first = random.nextInt(80);
        for (int i = 0; i < rects && text.length() < 270; i++) {
            int x1 = random.nextInt(2 * span + 1) - span;
            int y1 = random.nextInt(2 * span + 1) - span;
            int x2 = Math.min(1000, x1 + random.nextInt(wide + 1));
            int y2 = Math.min(1000, y1 + random.nextInt(wide + 1));
            text.append(";rect " + (first + i) + " " + x1 + " " + y1 + " " + x2 + " " + y2);
        }
        return text.toString();
    }

    private static String spoilt(Random random, String text) {
        StringBuilder b = new StringBuilder(text);
        String signs = "  ;-0123456789pagerctx,A\t\u00ff";
        int times = random.nextInt(3) == 0 ? 0 : 1 + random.nextInt(2);
        for (int i = 0; i < times; i++) {
            int at = random.nextInt(b.length());
            char sign = signs.charAt(random.nextInt(signs.length()));
            switch (random.nextInt(4)) {
                case 0:
                    b.insert(at, sign);
                    break;
                case 1:
                    b.setCharAt(at, sign);
                    break;
                case 2:
                    b.deleteCharAt(at);
                    break;
                default:
                    b.setLength(Math.max(1, at));
            }
        }
        return b.length() > 300 ? b.substring(0, 300) : b.toString();
    }

    private void like(String call, long got, long due) {
        log.append(call).append(" -> ").append(due).append('\n');
        if (got != due) {
            wrong++;
            System.out.println(call + " answered " + got + ", due is " + due);
        }
    }

    private void tell(String text) {
        int room = text.length() % 20 == 0 ? text.length() : text.length() + 20 - text.length() % 20;
        like("end 0", real.end(0), plain.end(0));
        for (int i = 0; i < room; i += 20) {
            int[] n = new int[5];
            for (int j = 0; j < 20; j++) {
                n[j / 4] = n[j / 4] << 8 | (i + j < text.length() ? text.charAt(i + j) : 0);
            }
            like("feed " + text, real.feed(n[0], n[1], n[2], n[3], n[4]), plain.feed(n[0], n[1], n[2], n[3], n[4]));
        }
        like("end", real.end(text.length()), plain.end(text.length()));
        like("file " + text, real.file(), plain.file());
    }

    private int odd(int usual) {
        return random.nextInt(40) == 0 ? ODD[random.nextInt(ODD.length)] : usual;
    }

    private int place() {
        return random.nextInt(2 * span + 1) - span;
    }

    private int id() {
        return odd(random.nextInt(100));
    }

    private void put() {
        int x1 = odd(place());
        int y1 = odd(place());
        int x2 = odd(Math.min(1000, x1 + random.nextInt(wide + 1)));
        int y2 = odd(Math.min(1000, y1 + random.nextInt(wide + 1)));
        int id = id();
        like("put " + id + " " + x1 + " " + y1 + " " + x2 + " " + y2,
                real.put(id, x1, y1, x2, y2), plain.put(id, x1, y1, x2, y2));
    }

    private void remove() {
        int id = id();
        like("remove " + id, real.remove(id), plain.remove(id));
    }

    private void shift() {
        int id = id();
        int dx = odd(place());
        int dy = odd(place());
        like("shift " + id + " " + dx + " " + dy, real.shift(id, dx, dy), plain.shift(id, dx, dy));
    }

    private void graft() {
        int pages = Math.max(1, plain.count(1));
        int page = odd(random.nextInt(pages + 1));
        int into = odd(random.nextInt(pages + 1));
        // Of two by chance few have levels that fit: so others are looked for.
        for (int i = 0; i < 20 && plain.page(into, 4) != plain.page(page, 4) + 1; i++) {
            into = odd(random.nextInt(pages + 1));
        }
        like("graft " + page + " " + into, real.graft(page, into), plain.graft(page, into));
    }

    private void act() {
        int which = random.nextInt(100);
        int shelf = random.nextInt(20) == 0 ? random.nextInt(5) - 2 : random.nextInt(2);
        if (which < 40) {
            if (bias == 1 || bias > 1 && random.nextBoolean()) {
                remove();
            } else {
                put();
            }
        } else if (which < 55) {
            shift();
        } else if (which < 60) {
            like("bulk", real.bulk(), plain.bulk());
        } else if (which < 75) {
            graft();
        } else if (which < 80) {
            int n = odd(1 + random.nextInt(bias == 1 ? 20 : 5));
            like("drawn " + n, real.drawn(n), plain.drawn(n));
        } else if (which < 82) {
            int n = odd(random.nextInt());
            like("draws " + n, real.draws(n), plain.draws(n));
        } else if (which < 93) {
            like("undo", real.undo(), plain.undo());
        } else if (which < 96) {
            like("keep " + shelf, real.keep(shelf), plain.keep(shelf));
        } else if (which < 98) {
            like("back " + shelf, real.back(shelf), plain.back(shelf));
        } else if (which < 99) {
            tell(spoilt(random, text(random, span, wide, 14)));
        } else {
            int n = random.nextInt();
            like("feed", real.feed(n, n, n, n, n), plain.feed(n, n, n, n, n));
            int m = odd(random.nextInt(310));
            like("end " + m, real.end(m), plain.end(m));
        }
    }

    private void ask() {
        int x1 = odd(place());
        int y1 = odd(place());
        int x2 = odd(Math.max(x1, place()));
        int y2 = odd(Math.max(y1, place()));
        int k = odd(random.nextInt(12) - 3);
        like("choose", real.choose(x1, y1, x2, y2), plain.choose(x1, y1, x2, y2));
        like("window", real.window(x1, y1, x2, y2, k), plain.window(x1, y1, x2, y2, k));
        int what = odd(random.nextInt(3));
        int n = odd(random.nextInt(Math.max(1, plain.count(0) + 1)));
        like("nearest " + x1 + " " + y1 + " " + n + " " + what,
                real.nearest(x1, y1, n, what), plain.nearest(x1, y1, n, what));
        like("pairs", real.pairs(), plain.pairs());
        like("union", real.union(), plain.union());
        int of = odd(random.nextInt(2));
        like("grid " + of, real.grid(of), plain.grid(of));
        like("fill", real.fill(), plain.fill());
        int w = odd(random.nextInt(2001));
        like("cost", real.cost(w, n), plain.cost(w, n));
        int level = odd(random.nextInt(4));
        like("overlap " + level, real.overlap(level), plain.overlap(level));
        for (int i = -1; i < 3; i++) {
            like("same " + i, real.same(i), plain.same(i));
        }
        for (int i = -1; i < 13; i++) {
            like("count " + i, real.count(i), plain.count(i));
        }
    }

    private void lookAround() {
        for (int id = -1; id <= 100; id++) {
            int what = random.nextInt(7) - 1;
            like("rect " + id + " " + what, real.rect(id, what), plain.rect(id, what));
        }
        for (int page = -1; page <= plain.count(1); page++) {
            for (int i = -1; i <= 9; i++) {
                like("entry " + page + " " + i, real.entry(page, i), plain.entry(page, i));
            }
            int what = random.nextInt(10) - 1;
            like("page " + page + " " + what, real.page(page, what), plain.page(page, what));
        }
    }

    private void run() {
        if (style == 0) {
            ask();
            act();
        }
        tell(text(random, span, wide, style == 1 ? 0 : 20));
        for (int i = 0; i < 20 && style == 2; i++) {
            like("drawn", real.drawn(20), plain.drawn(20));
        }
        for (int i = 0; i < 60 + random.nextInt(60) && wrong == 0; i++) {
            act();
            if (random.nextInt(3) == 0) {
                ask();
            }
            if (random.nextInt(5) == 0) {
                lookAround();
            }
        }
    }

    /** Small pages and rectangles that lie across one another make trees of many levels. */
    private void runDeep() {
        tell("page 3 1 " + (1 + random.nextInt(3)));
        for (int i = 0; i < 250 && wrong == 0; i++) {
            int x1 = random.nextInt(601) - 300;
            int y1 = random.nextInt(601) - 300;
            int id = random.nextInt(100);
            int wide = random.nextInt(501);
            int high = random.nextInt(501);
            if (random.nextInt(8) < 7 - bias) {
                like("put", real.put(id, x1, y1, x1 + wide, y1 + high), plain.put(id, x1, y1, x1 + wide, y1 + high));
            } else if (random.nextInt(3) > 0) {
                like("remove " + id, real.remove(id), plain.remove(id));
            } else {
                graft();
            }
            deepest = Math.max(deepest, plain.count(2));
        }
        ask();
        lookAround();
    }

    private static void texts(int runs) {
        for (int i = 0; i < runs && wrong == 0; i++) {
            Random random = new Random(7000 + i);
            RandomRunsTest test = new RandomRunsTest(i);
            for (int j = 0; j < 30; j++) {
                test.tell(spoilt(random, text(random, 1000, 2000, 14)));
            }
        }
    }

    public static void main(String[] args) {
        int runs = args.length > 0 ? Integer.parseInt(args[0]) : 300;
        texts(runs);
        for (int i = 0; i < runs && wrong == 0; i++) {
            RandomRunsTest test = new RandomRunsTest(i);
            if (i % 20 == 0) {
                test.runDeep();
            } else {
                test.run();
            }
            if (wrong != 0) {
                System.out.println("run " + i + ":\n" + test.log);
            }
        }
        System.out.println(wrong == 0 ? "random runs: all answers are as due, up to " + deepest + " levels" : "random runs: wrong");
        if (wrong != 0) {
            System.exit(1);
        }
    }
}
