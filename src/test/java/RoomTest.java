import java.util.Random;

/** 512 calls on trees of many levels and pages must stay far below the room in which all calls of a run live. */
public final class RoomTest {
    // An eighth of 7.3 million elements, were each of four bytes.
    private static final long MOST_BYTES = 7300000L * 4 / 8;

    private static int pages(long seed) {
        Random random = new Random(seed);
        RectFile f = new RectFile();
        f.feed(0x70616765, 0x20332031, 0x20312020, 0x20202020, 0x20202020);
        f.file();
        int most = 0;
        for (int i = 0; i < 500; i++) {
            int x = random.nextInt(601) - 300;
            int y = random.nextInt(601) - 300;
            if (random.nextInt(3) > 0) {
                f.put(random.nextInt(100), x, y, x + random.nextInt(501), y + random.nextInt(501));
            } else if (random.nextInt(3) > 0) {
                f.shift(random.nextInt(100), random.nextInt(11), random.nextInt(11));
            } else {
                f.remove(random.nextInt(100));
            }
            most = Math.max(most, f.count(1));
        }
        f.nearest(0, 0, 50, 0);
        f.window(0, 0, 9, 9, -2);
        f.keep(0);
        f.keep(1);
        f.same(1);
        f.union();
        f.pairs();
        return most;
    }

    public static void main(String[] args) {
        int most = 0;
        long dearest = 0;
        for (int seed = 0; seed < 40; seed++) {
            long before = Twin.allocated();
            most = Math.max(most, pages(seed));
            dearest = Math.max(dearest, Twin.allocated() - before);
        }
        System.out.println("room: " + dearest + " bytes for a run with up to " + most + " pages");
        if (dearest > MOST_BYTES) {
            System.out.println("room: more than " + MOST_BYTES);
            System.exit(1);
        }
    }
}
