import java.util.Random;

/**
 * Trees as deep as can be found: of some rectangles by chance that which makes most levels is put, time and again. A life
 * of 512 calls on such a tree answers as PlainFile does, and stays far below the room in which all calls of a run live.
 */
public final class DeepTest extends Checks {
    private static final int CALLS = 512;
    private static final int TRIES = 40;
    private static final int LEVELS = 40;
    // Of 7.3 million elements a third, were each of four bytes.
    private static final long MOST_BYTES = 7300000L * 4 / 3;

    private final Random random;
    private final Twin twin = new Twin();

    private DeepTest(long seed) {
        random = new Random(seed);
    }

    private int[] randomRect(int id) {
        int x = random.nextInt(1801) - 900;
        int y = random.nextInt(1801) - 900;
        int wide = random.nextInt(1 + Math.min(1000 - x, random.nextBoolean() ? 100 : 1800));
        int high = random.nextInt(1 + Math.min(1000 - y, random.nextBoolean() ? 100 : 1800));
        return new int[] {id, x, y, x + wide, y + high};
    }

    /** Of many the one after which the tree is deepest, tried on another file like this one. */
    private int[] deepening(RectFile like, int id) {
        int[] best = null;
        int most = -1;
        for (int i = 0; i < TRIES; i++) {
            int[] r = randomRect(id);
            like.put(r[0], r[1], r[2], r[3], r[4]);
            int worth = 100000 * like.count(2) + 10000 * like.page(0, 5) + like.count(1);
            like.undo();
            if (worth > most) {
                most = worth;
                best = r;
            }
        }
        like.put(best[0], best[1], best[2], best[3], best[4]);
        return best;
    }

    private void callByChance() {
        int id = random.nextInt(100);
        int n = random.nextInt(101) - 50;
        int m = random.nextInt(101) - 50;
        switch (random.nextInt(8)) {
            case 0:
                twin.call("put", randomRect(id));
                break;
            case 1:
                twin.call("remove", id);
                break;
            case 2:
                twin.call("shift", id, n, m);
                break;
            case 3:
                twin.call("undo");
                break;
            case 4:
                twin.call("keep", id % 2);
                break;
            case 5:
                twin.call("nearest", n, m, id, 2);
                break;
            case 6:
                twin.call("page", 20 * id, id % 8);
                break;
            default:
                twin.call("window", n, n, n + 9, n + 9, -2);
        }
    }

    private int live(int again) {
        String text = "page 3 1 " + again;
        RectFile like = told(text);
        twin.tell(text);
        for (int id = 0; id < 100; id++) {
            twin.call("put", deepening(like, id));
        }
        int levels = twin.real.count(2);
        due("deep enough", levels >= LEVELS ? 1 : 0, 1);
        dueSound(twin.real);
        while (twin.calls < CALLS) {
            callByChance();
        }
        dueSound(twin.real);
        due("bytes within the room", twin.bytes <= MOST_BYTES ? 1 : 0, 1);
        return levels;
    }

    public static void main(String[] args) {
        for (int again = 1; again <= 3; again++) {
            about("p " + again);
            DeepTest test = new DeepTest(again);
            int levels = test.live(again);
            System.out.println("deep: " + levels + " levels, " + test.twin.bytes + " bytes");
        }
        finish("deep");
    }
}
