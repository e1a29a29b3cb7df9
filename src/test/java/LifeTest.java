import java.util.Random;

/**
 * Whole lives of 512 calls: any call with any arguments, at edges and far beyond them, in any state. No call may throw,
 * every answer up to the last one is that of PlainFile, and the tree is sound then.
 */
public final class LifeTest extends Checks {
    private static final int CALLS = 512;
    private static final int CALLS_BEHIND = 2000;
    private static final int[] EDGES = {MIN, MIN + 1, -2001, -2000, -1025, -1024, -1001, -1000, -3, -2, -1, 0, 1, 2, 3, 4,
        5, 6, 7, 8, 9, 10, 11, 12, 19, 20, 21, 50, 98, 99, 100, 101, 255, 256, 299, 300, 301, 999, 1000, 1001, 1999, 2000,
        2001, MAX - 1, MAX};

    private final Random random;
    private final Twin twin = new Twin();

    private LifeTest(long seed) {
        random = new Random(seed);
    }

    private void call(String name, int... a) {
        if (twin.calls < CALLS) {
            twin.call(name, a);
        } else {
            twin.callFreely(name, a);
        }
    }

    private int edge() {
        return EDGES[random.nextInt(EDGES.length)];
    }

    private void callAtEdges() {
        int kind = random.nextInt(Twin.NAMES.size());
        // The tape would be empty and full all the time.
        if (kind <= 2 && random.nextInt(4) > 0) {
            kind = 3 + random.nextInt(8);
        }
        call(Twin.NAMES.get(kind), edge(), edge(), edge(), edge(), edge());
    }

    private void callAsUsual() {
        int x1 = random.nextInt(1901) - 1000;
        int y1 = random.nextInt(1901) - 1000;
        int x2 = Math.min(1000, x1 + random.nextInt(random.nextBoolean() ? 101 : 1001));
        int y2 = Math.min(1000, y1 + random.nextInt(random.nextBoolean() ? 101 : 1001));
        int id = random.nextInt(100);
        int page = random.nextInt(Math.max(1, twin.plain.count(1)));
        int other = random.nextInt(Math.max(1, twin.plain.count(1)));
        switch (random.nextInt(12)) {
            case 0:
                call("remove", id);
                break;
            case 1:
                call("shift", id, random.nextInt(201) - 100, random.nextInt(201) - 100);
                break;
            case 2:
                call(random.nextInt(6) == 0 ? "bulk" : "undo");
                break;
            case 3:
                call("graft", page, other);
                break;
            case 4:
                call("drawn", 1 + random.nextInt(20));
                break;
            case 5:
                call(random.nextBoolean() ? "keep" : "back", random.nextInt(2));
                break;
            case 6:
                call("choose", x1, y1, x2, y2);
                call("window", x1, y1, x2, y2, random.nextInt(10) - 2);
                break;
            case 7:
                call("nearest", x1, y1, random.nextInt(30), random.nextInt(3));
                break;
            case 8:
                call("page", page, random.nextInt(8));
                call("entry", page, random.nextInt(8));
                break;
            default:
                call("put", id, x1, y1, x2, y2);
        }
    }

    private void live(int edgesOfTen) {
        for (int turn = 0; twin.calls < CALLS; turn++) {
            if ((turn == 5 || random.nextInt(300) == 0) && twin.calls < CALLS - 20) {
                twin.tell(RandomRunsTest.text(random, 1000, 300, 14));
            } else if (random.nextInt(10) < edgesOfTen) {
                callAtEdges();
            } else {
                callAsUsual();
            }
        }
        if (twin.plain.count(1) > 0) {
            dueSound(twin.real);
        }
    }

    /** What is answered behind the 512th call is free, but no call may ever throw. */
    private void liveOn(int edgesOfTen) {
        while (twin.calls < CALLS + CALLS_BEHIND) {
            if (random.nextInt(10) < edgesOfTen) {
                callAtEdges();
            } else {
                callAsUsual();
            }
        }
    }

    public static void main(String[] args) {
        int lives = args.length > 0 ? Integer.parseInt(args[0]) : 100;
        for (int seed = 0; seed < lives; seed++) {
            about("life " + seed);
            LifeTest life = new LifeTest(seed);
            life.live(1 + 3 * (seed % 4));
            life.liveOn(seed % 4);
        }
        finish("lives");
    }
}
