import java.util.Arrays;

/**
 * A file of rectangles, held in a tree of pages.
 *
 * Rectangles and pages are told apart by one number, a THING: 0 to 99 is the rectangle with that ID, 100 and more
 * is a page. Between two calls the pages of a tree stand by their numbers in the document's sense, so that a page's
 * number is its index and all that lies in a page stands right behind it.
 */
public final class RectFile {
    public static final int NONE = -1;

    private static final int NOTHING = Integer.MIN_VALUE;
    private static final int IDS = 100;
    private static final int REACH = 1000;
    private static final int POINT_REACH = 2000;
    private static final int WIDEST_WINDOW = 2000;
    private static final int MOST_DRAWN = 20;
    private static final int SHELVES = 2;

    private static final int REFUSED = -2;
    private static final int TOO_FEW = -2;
    private static final int HOLDS_RECTS = -3;
    private static final int OTHER_LEVEL = -4;
    private static final int IS_FULL = -5;
    private static final int WOULD_LACK = -6;

    private final Tape tape;
    private final History history;
    private final Tree[] shelves;
    private final Grower grower;
    private final Numberer numberer;
    private final Tiler tiler;
    private final Seeker seeker;
    private final Measurer measurer;
    private Tree now;
    private Tree spare;
    private boolean told;
    private int seed;

    public RectFile() {
        tape = new Tape();
        history = new History();
        shelves = new Tree[SHELVES];
        grower = new Grower();
        numberer = new Numberer();
        tiler = new Tiler();
        seeker = new Seeker();
        measurer = new Measurer();
        now = new Tree();
        spare = new Tree();
        told = false;
        seed = 0;
    }

    public int feed(int a, int b, int c, int d, int e) {
        if (!tape.hasRoom()) {
            return NONE;
        }
        tape.write(a);
        tape.write(b);
        tape.write(c);
        tape.write(d);
        tape.write(e);
        return tape.length;
    }

    public int end(int n) {
        if (n < 0 || n > tape.length) {
            return NONE;
        }
        tape.length = n;
        return n;
    }

    public int file() {
        int fault = tape.read();
        tape.length = 0;
        if (fault != 0) {
            return -2 - fault;
        }
        history.forget();
        told = true;
        now.begin(tape.most, tape.least, tape.again);
        for (int i = 0; i < tape.rects; i++) {
            int at = 4 * i;
            now.setRect(tape.ids[i], tape.sides[at], tape.sides[at + 1], tape.sides[at + 2], tape.sides[at + 3]);
            grower.bringRect(now, tape.ids[i]);
        }
        numberPages();
        return now.rects;
    }

    public int put(int id, int x1, int y1, int x2, int y2) {
        if (!told || !isId(id) || !isRect(x1, y1, x2, y2)) {
            return NONE;
        }
        if (now.hasRect(id)) {
            return REFUSED;
        }
        history.remember(now, seed);
        now.setRect(id, x1, y1, x2, y2);
        grower.bringRect(now, id);
        numberPages();
        return now.pages;
    }

    public int remove(int id) {
        if (!isInFile(id)) {
            return NONE;
        }
        history.remember(now, seed);
        grower.takeRect(now, id);
        numberPages();
        return now.pages;
    }

    public int shift(int id, int dx, int dy) {
        if (!isInFile(id)) {
            return NONE;
        }
        int at = 4 * id;
        // As long: the sum of a side and any int must not wrap round into the reach again.
        long x1 = (long) now.side[at] + dx;
        long y1 = (long) now.side[at + 1] + dy;
        long x2 = (long) now.side[at + 2] + dx;
        long y2 = (long) now.side[at + 3] + dy;
        if (x1 < -REACH || y1 < -REACH || x2 > REACH || y2 > REACH) {
            return REFUSED;
        }
        history.remember(now, seed);
        grower.takeRect(now, id);
        now.setRect(id, (int) x1, (int) y1, (int) x2, (int) y2);
        grower.bringRect(now, id);
        numberPages();
        return now.pages;
    }

    public int bulk() {
        if (!told) {
            return NONE;
        }
        history.remember(now, seed);
        tiler.layAnew(now);
        numberPages();
        return now.pages;
    }

    public int graft(int page, int into) {
        if (!isPage(page) || !isPage(into) || page == now.root) {
            return NONE;
        }
        int why = whyNoGraft(page, into);
        if (why != 0) {
            return why;
        }
        history.remember(now, seed);
        int from = now.home[IDS + page];
        now.detach(IDS + page);
        now.fitUp(from);
        now.append(into, IDS + page);
        now.fitUp(into);
        int entries = now.size[into];
        numberPages();
        return entries;
    }

    public int drawn(int n) {
        if (!told || n < 1 || n > MOST_DRAWN) {
            return NONE;
        }
        history.remember(now, seed);
        int came = 0;
        for (int i = 0; i < n; i++) {
            int id = now.leastFreeId();
            if (id == NONE) {
                break;
            }
            int x1 = draw(1801) - 900;
            int y1 = draw(1801) - 900;
            int x2 = x1 + draw(101);
            int y2 = y1 + draw(101);
            now.setRect(id, x1, y1, x2, y2);
            grower.bringRect(now, id);
            came++;
        }
        numberPages();
        return came;
    }

    public int draws(int x) {
        if (x < 0) {
            return NONE;
        }
        int was = seed;
        seed = x;
        return was;
    }

    public int undo() {
        if (history.held == 0) {
            return NONE;
        }
        seed = history.newestSeed();
        history.giveBack(now);
        return history.held;
    }

    public int keep(int shelf) {
        if (!told || !isShelf(shelf)) {
            return NONE;
        }
        Tree kept = shelves[shelf];
        if (kept == null) {
            kept = new Tree();
            shelves[shelf] = kept;
        }
        kept.copyFrom(now);
        return kept.rects;
    }

    public int back(int shelf) {
        if (!isShelf(shelf)) {
            return NONE;
        }
        Tree kept = shelves[shelf];
        if (kept == null) {
            return REFUSED;
        }
        now.copyFrom(kept);
        history.forget();
        return now.rects;
    }

    public int rect(int id, int what) {
        if (!isInFile(id) || what < 0 || what > 4) {
            return NOTHING;
        }
        return what == 4 ? now.home[id] : now.side[4 * id + what];
    }

    public int page(int page, int what) {
        if (!isPage(page)) {
            return NOTHING;
        }
        switch (what) {
            case 0:
            case 1:
            case 2:
            case 3:
                return now.size[page] == 0 ? NOTHING : now.side[4 * (IDS + page) + what];
            case 4:
                return now.level[page];
            case 5:
                return now.size[page];
            case 6:
                return now.home[IDS + page];
            case 7:
                return now.rectsBelow(page);
            default:
                return NOTHING;
        }
    }

    public int entry(int page, int i) {
        if (!isPage(page) || i < 0 || i >= now.size[page]) {
            return NONE;
        }
        int thing = now.thingAt(page, i);
        return thing < IDS ? thing : thing - IDS;
    }

    public int choose(int x1, int y1, int x2, int y2) {
        if (!told || !isRect(x1, y1, x2, y2)) {
            return NONE;
        }
        return grower.firstPageFor(now, x1, y1, x2, y2);
    }

    public int window(int x1, int y1, int x2, int y2, int k) {
        if (!told || x1 > x2 || y1 > y2 || k < -2) {
            return NONE;
        }
        seeker.openWindow(x1, y1, x2, y2);
        if (k == -2) {
            return seeker.pagesLookedAt(now);
        }
        return k == NONE ? seeker.rectsMet(now) : seeker.metById(now, k);
    }

    public int nearest(int x, int y, int k, int what) {
        if (!told || k < 0 || what < 0 || what > 2 || !isPoint(x, y)) {
            return NONE;
        }
        if (!seeker.findNearest(now, x, y, k)) {
            return TOO_FEW;
        }
        if (what == 0) {
            return seeker.foundId;
        }
        return what == 1 ? seeker.foundFar : seeker.opened;
    }

    public int pairs() {
        return told ? measurer.meetingTwos(now) : NONE;
    }

    public long union() {
        return told ? measurer.commonArea(now) : NONE;
    }

    public long grid(int of) {
        if (!told) {
            return 0L;
        }
        if (of == 0) {
            return measurer.gridOfRects(now);
        }
        return of == 1 ? measurer.gridOfLeaves(now) : 0L;
    }

    public int fill() {
        return told ? Measurer.bitsOf(measurer.fillOf(now)) : NONE;
    }

    public long cost(int w, int h) {
        if (!told || w < 0 || w > WIDEST_WINDOW || h < 0 || h > WIDEST_WINDOW) {
            return NONE;
        }
        return Measurer.bitsOf(measurer.costOf(now, w, h));
    }

    public long overlap(int level) {
        if (!told || level < 0 || level > now.level[now.root]) {
            return NONE;
        }
        return measurer.overlapOnLevel(now, level);
    }

    public int same(int shelf) {
        if (!told || !isShelf(shelf)) {
            return NONE;
        }
        Tree kept = shelves[shelf];
        if (kept == null) {
            return REFUSED;
        }
        return now.isLike(kept) ? 1 : 0;
    }

    public int count(int what) {
        if (what >= 0 && what <= 7) {
            return told ? countInTree(what) : 0;
        }
        switch (what) {
            case 8:
                return history.held;
            case 9:
                return seed;
            case 10:
                return tape.length;
            case 11:
                return (shelves[0] == null ? 0 : 1) + (shelves[1] == null ? 0 : 2);
            default:
                return NONE;
        }
    }

    private int countInTree(int what) {
        switch (what) {
            case 0:
                return now.rects;
            case 1:
                return now.pages;
            case 2:
                return now.level[now.root] + 1;
            case 3:
                return now.most;
            case 4:
                return now.least;
            case 5:
                return now.again;
            case 6:
                return now.splits;
            default:
                return now.reinserts;
        }
    }

    private int whyNoGraft(int page, int into) {
        if (now.level[into] == 0) {
            return HOLDS_RECTS;
        }
        if (now.level[into] != now.level[page] + 1) {
            return OTHER_LEVEL;
        }
        if (now.size[into] >= now.most) {
            return IS_FULL;
        }
        int from = now.home[IDS + page];
        int needed = from == now.root ? 2 : now.least;
        return from == into || now.size[from] - 1 < needed ? WOULD_LACK : 0;
    }

    /** An act leaves pages numbered as they were made; all questions want them by their place in the tree. */
    private void numberPages() {
        numberer.lay(now, spare);
        Tree old = now;
        now = spare;
        spare = old;
    }

    /** k is above 0 in all calls. */
    private int draw(int k) {
        seed = (int) ((seed * 1103515245L + 12345L) & 2147483647L);
        return k > 0 ? seed / 65536 % k : 0;
    }

    private boolean isInFile(int id) {
        return told && isId(id) && now.hasRect(id);
    }

    private boolean isPage(int page) {
        return told && page >= 0 && page < now.pages;
    }

    private static boolean isId(int id) {
        return id >= 0 && id < IDS;
    }

    private static boolean isShelf(int shelf) {
        return shelf >= 0 && shelf < SHELVES;
    }

    private static boolean isPoint(int x, int y) {
        return x >= -POINT_REACH && x <= POINT_REACH && y >= -POINT_REACH && y <= POINT_REACH;
    }

    private static boolean isRect(int x1, int y1, int x2, int y2) {
        return x1 >= -REACH && x1 <= x2 && x2 <= REACH && y1 >= -REACH && y1 <= y2 && y2 <= REACH;
    }

    /** The text that is fed, and its reading. */
    private static final class Tape {
        private static final int MOST_BYTES = 300;
        private static final int MOST_RECTS = 20;
        private static final int FED_AT_ONCE = 20;
        private static final int ENDED = -1;
        // Above every number that is ever as told: a longer number stays wrong and cannot wrap round.
        private static final int TOO_LARGE = 100000;

        private static final int CANNOT_STAND = 1;
        private static final int NOT_AS_TOLD = 2;
        private static final int ONE_TOO_MANY = 3;

        final int[] ids;
        final int[] sides;
        int length;
        int most;
        int least;
        int again;
        int rects;
        private final byte[] bytes;
        private int place;
        private int begun;
        private int fault;

        Tape() {
            ids = new int[MOST_RECTS];
            sides = new int[4 * MOST_RECTS];
            bytes = new byte[MOST_BYTES];
            length = 0;
        }

        boolean hasRoom() {
            return length + FED_AT_ONCE <= MOST_BYTES;
        }

        void write(int number) {
            for (int bits = 24; bits >= 0 && length < MOST_BYTES; bits -= 8) {
                bytes[length] = (byte) (number >> bits);
                length++;
            }
        }

        /** The fault of the text, 0 if it tells a file. */
        int read() {
            place = 0;
            begun = 0;
            fault = 0;
            rects = 0;
            readWord("page");
            most = readNumber(3, 8, false);
            least = readNumber(1, Math.min(4, most / 2), false);
            again = readNumber(1, Math.min(3, most + 1 - least), false);
            for (int i = 0; i <= MOST_RECTS && goesOn(); i++) {
                readRect();
            }
            return fault;
        }

        private void readRect() {
            readWord("rect");
            if (fault == 0 && rects >= MOST_RECTS) {
                blame(begun, ONE_TOO_MANY);
            }
            int id = readNumber(0, IDS - 1, false);
            if (fault == 0 && isTold(id)) {
                blame(begun, ONE_TOO_MANY);
            }
            int x1 = readNumber(-REACH, REACH, true);
            int y1 = readNumber(-REACH, REACH, true);
            int x2 = readNumber(x1, REACH, true);
            int y2 = readNumber(y1, REACH, true);
            if (fault == 0 && rects < MOST_RECTS) {
                ids[rects] = id;
                sides[4 * rects] = x1;
                sides[4 * rects + 1] = y1;
                sides[4 * rects + 2] = x2;
                sides[4 * rects + 3] = y2;
                rects++;
            }
        }

        private boolean isTold(int id) {
            for (int i = 0; i < rects; i++) {
                if (ids[i] == id) {
                    return true;
                }
            }
            return false;
        }

        private boolean goesOn() {
            if (fault != 0) {
                return false;
            }
            skipBlanks();
            if (place >= length) {
                return false;
            }
            if (signAt(place) != ';') {
                blame(place, CANNOT_STAND);
                return false;
            }
            place++;
            return true;
        }

        private void readWord(String name) {
            if (fault != 0) {
                return;
            }
            skipBlanks();
            begun = place;
            boolean alike = true;
            int letters = 0;
            while (place < length && isLetter(signAt(place))) {
                alike = alike && letters < name.length() && name.charAt(letters) == signAt(place);
                letters++;
                place++;
            }
            if (!alike || letters != name.length()) {
                blame(begun, CANNOT_STAND);
            }
        }

        private int readNumber(int low, int high, boolean signed) {
            if (fault != 0) {
                return 0;
            }
            skipBlanks();
            begun = place;
            boolean below = signed && signAt(place) == '-';
            if (below) {
                place++;
            }
            if (!isDigit(signAt(place))) {
                blame(place, CANNOT_STAND);
                return 0;
            }
            int value = below ? -readDigits() : readDigits();
            if (value < low || value > high) {
                blame(begun, NOT_AS_TOLD);
            }
            return value;
        }

        private int readDigits() {
            int value = 0;
            while (place < length && isDigit(signAt(place))) {
                value = Math.min(TOO_LARGE, 10 * value + signAt(place) - '0');
                place++;
            }
            return value;
        }

        private void skipBlanks() {
            while (place < length && signAt(place) == ' ') {
                place++;
            }
        }

        private void blame(int where, int kind) {
            fault = 8 * where + kind;
        }

        private int signAt(int where) {
            return where >= 0 && where < length ? bytes[where] & 255 : ENDED;
        }

        private static boolean isLetter(int sign) {
            return sign >= 'a' && sign <= 'z';
        }

        private static boolean isDigit(int sign) {
            return sign >= '0' && sign <= '9';
        }
    }

    /** The rectangles, the pages, and what is counted of them. */
    private static final class Tree {
        // One more than the largest M: a page that is too full stands for a while.
        static final int SLOTS = 9;
        static final int FIRST_ROOM = 32;

        int most;
        int least;
        int again;
        int splits;
        int reinserts;
        int rects;
        int pages;
        int root;
        // Of each thing: x1, y1, x2, y2; the page it lies in.
        int[] side;
        int[] home;
        // Of each page: its level, how many entries, and these.
        int[] level;
        int[] size;
        int[] slot;

        Tree() {
            side = new int[4 * (IDS + FIRST_ROOM)];
            home = new int[IDS + FIRST_ROOM];
            level = new int[FIRST_ROOM];
            size = new int[FIRST_ROOM];
            slot = new int[SLOTS * FIRST_ROOM];
            Arrays.fill(home, NONE);
        }

        void begin(int mostEntries, int leastEntries, int sentAgain) {
            most = mostEntries;
            least = leastEntries;
            again = sentAgain;
            splits = 0;
            reinserts = 0;
            rects = 0;
            pages = 0;
            Arrays.fill(home, NONE);
            root = newPage(0);
        }

        /** Takes all but the pages, which the caller lays; no rectangle lies anywhere yet. */
        void takeRectsFrom(Tree other) {
            takeCountsFrom(other);
            pages = 0;
            System.arraycopy(other.side, 0, side, 0, 4 * IDS);
            Arrays.fill(home, NONE);
        }

        void copyFrom(Tree other) {
            takeCountsFrom(other);
            makeRoom(other.pages);
            pages = other.pages;
            System.arraycopy(other.side, 0, side, 0, 4 * (IDS + pages));
            System.arraycopy(other.home, 0, home, 0, IDS + pages);
            System.arraycopy(other.level, 0, level, 0, pages);
            System.arraycopy(other.size, 0, size, 0, pages);
            System.arraycopy(other.slot, 0, slot, 0, SLOTS * pages);
        }

        private void takeCountsFrom(Tree other) {
            most = other.most;
            least = other.least;
            again = other.again;
            splits = other.splits;
            reinserts = other.reinserts;
            rects = other.rects;
            root = other.root;
        }

        private void makeRoom(int wanted) {
            if (wanted <= level.length) {
                return;
            }
            int room = Math.max(wanted, 2 * level.length);
            side = Arrays.copyOf(side, 4 * (IDS + room));
            home = Arrays.copyOf(home, IDS + room);
            level = Arrays.copyOf(level, room);
            size = Arrays.copyOf(size, room);
            slot = Arrays.copyOf(slot, SLOTS * room);
        }

        boolean hasRect(int id) {
            return home[id] != NONE;
        }

        int leastFreeId() {
            for (int id = 0; id < IDS; id++) {
                if (home[id] == NONE) {
                    return id;
                }
            }
            return NONE;
        }

        void setRect(int id, int x1, int y1, int x2, int y2) {
            setSides(id, x1, y1, x2, y2);
            rects++;
        }

        void setSides(int thing, int x1, int y1, int x2, int y2) {
            int at = 4 * thing;
            side[at] = x1;
            side[at + 1] = y1;
            side[at + 2] = x2;
            side[at + 3] = y2;
        }

        int newPage(int ofLevel) {
            makeRoom(pages + 1);
            int page = pages;
            pages++;
            level[page] = ofLevel;
            size[page] = 0;
            home[IDS + page] = NONE;
            setSides(IDS + page, 0, 0, 0, 0);
            return page;
        }

        int thingAt(int page, int i) {
            return slot[SLOTS * page + i];
        }

        void append(int page, int thing) {
            if (size[page] >= SLOTS) {
                return;
            }
            slot[SLOTS * page + size[page]] = thing;
            size[page]++;
            home[thing] = page;
        }

        void detach(int thing) {
            int page = home[thing];
            if (page == NONE) {
                return;
            }
            int kept = 0;
            for (int i = 0; i < size[page]; i++) {
                int other = thingAt(page, i);
                if (other != thing) {
                    slot[SLOTS * page + kept] = other;
                    kept++;
                }
            }
            size[page] = kept;
            home[thing] = NONE;
        }

        /** Fits the box of a page round its entries: whether it was another one. */
        boolean fit(int page) {
            if (size[page] == 0) {
                return changeSides(IDS + page, 0, 0, 0, 0);
            }
            int first = 4 * thingAt(page, 0);
            int x1 = side[first];
            int y1 = side[first + 1];
            int x2 = side[first + 2];
            int y2 = side[first + 3];
            for (int i = 1; i < size[page]; i++) {
                int at = 4 * thingAt(page, i);
                x1 = Math.min(x1, side[at]);
                y1 = Math.min(y1, side[at + 1]);
                x2 = Math.max(x2, side[at + 2]);
                y2 = Math.max(y2, side[at + 3]);
            }
            return changeSides(IDS + page, x1, y1, x2, y2);
        }

        private boolean changeSides(int thing, int x1, int y1, int x2, int y2) {
            int at = 4 * thing;
            boolean alike = side[at] == x1 && side[at + 1] == y1 && side[at + 2] == x2 && side[at + 3] == y2;
            setSides(thing, x1, y1, x2, y2);
            return !alike;
        }

        /** Up to a page whose box stays: those above it stay, too. */
        void fitUp(int from) {
            int page = from;
            for (int steps = 0; page != NONE && fit(page) && steps < pages; steps++) {
                page = home[IDS + page];
            }
        }

        void lowerRoot() {
            for (int steps = 0; level[root] > 0 && size[root] == 1 && steps < pages; steps++) {
                root = thingAt(root, 0) - IDS;
                home[IDS + root] = NONE;
            }
        }

        /** All that lies in a page stands right behind it, on lower levels. */
        int rectsBelow(int page) {
            if (level[page] == 0) {
                return size[page];
            }
            int found = 0;
            for (int i = page + 1; i < pages && level[i] < level[page]; i++) {
                if (level[i] == 0) {
                    found += size[i];
                }
            }
            return found;
        }

        boolean isLike(Tree other) {
            if (pages != other.pages || rects != other.rects) {
                return false;
            }
            for (int page = 0; page < pages; page++) {
                if (level[page] != other.level[page] || size[page] != other.size[page]) {
                    return false;
                }
                for (int i = 0; i < size[page]; i++) {
                    int thing = thingAt(page, i);
                    if (thing != other.thingAt(page, i) || !hasLikeSides(other, thing)) {
                        return false;
                    }
                }
            }
            return true;
        }

        private boolean hasLikeSides(Tree other, int thing) {
            for (int at = 4 * thing; at < 4 * thing + 4; at++) {
                if (side[at] != other.side[at]) {
                    return false;
                }
            }
            return true;
        }
    }

    /** A box by itself, to measure with. */
    private static final class Box {
        int x1;
        int y1;
        int x2;
        int y2;

        void set(int lowX, int lowY, int highX, int highY) {
            x1 = lowX;
            y1 = lowY;
            x2 = highX;
            y2 = highY;
        }

        void take(Tree tree, int thing) {
            int at = 4 * thing;
            x1 = tree.side[at];
            y1 = tree.side[at + 1];
            x2 = tree.side[at + 2];
            y2 = tree.side[at + 3];
        }

        void takeBoth(Box one, Box other) {
            x1 = Math.min(one.x1, other.x1);
            y1 = Math.min(one.y1, other.y1);
            x2 = Math.max(one.x2, other.x2);
            y2 = Math.max(one.y2, other.y2);
        }

        int area() {
            return (x2 - x1) * (y2 - y1);
        }

        int margin() {
            return x2 - x1 + y2 - y1;
        }

        int areaWith(Box other) {
            int wide = Math.min(x2, other.x2) - Math.max(x1, other.x1);
            int high = Math.min(y2, other.y2) - Math.max(y1, other.y1);
            return wide <= 0 || high <= 0 ? 0 : wide * high;
        }

        boolean meets(Tree tree, int thing) {
            int at = 4 * thing;
            return x1 <= tree.side[at + 2] && tree.side[at] <= x2
                    && y1 <= tree.side[at + 3] && tree.side[at + 1] <= y2;
        }

        int farFrom(int x, int y) {
            int beyondX = Math.max(0, Math.max(x1 - x, x - x2));
            int beyondY = Math.max(0, Math.max(y1 - y, y - y2));
            return beyondX * beyondX + beyondY * beyondY;
        }
    }

    /** Finds the page to which an entry comes. */
    private static final class Chooser {
        final Box coming;
        private final Box own;
        private final Box grown;
        private final Box other;
        private int more;
        private int growth;
        private int area;
        private int leastMore;
        private int leastGrowth;
        private int leastArea;

        Chooser() {
            coming = new Box();
            own = new Box();
            grown = new Box();
            other = new Box();
        }

        int pageFor(Tree tree, int level) {
            int page = tree.root;
            for (int steps = 0; tree.level[page] > level && tree.size[page] > 0 && steps < tree.pages; steps++) {
                page = tree.thingAt(page, bestEntry(tree, page)) - IDS;
            }
            return page;
        }

        private int bestEntry(Tree tree, int page) {
            int best = 0;
            for (int i = 0; i < tree.size[page]; i++) {
                own.take(tree, tree.thingAt(page, i));
                grown.takeBoth(own, coming);
                area = own.area();
                growth = grown.area() - area;
                // Only above pages of rectangles does overlap count: elsewhere all are alike in it.
                more = tree.level[page] == 1 ? moreOverlap(tree, page, i) : 0;
                if (i == 0 || isBetter()) {
                    best = i;
                    leastMore = more;
                    leastGrowth = growth;
                    leastArea = area;
                }
            }
            return best;
        }

        private boolean isBetter() {
            if (more != leastMore) {
                return more < leastMore;
            }
            return growth != leastGrowth ? growth < leastGrowth : area < leastArea;
        }

        private int moreOverlap(Tree tree, int page, int i) {
            int sum = 0;
            for (int j = 0; j < tree.size[page]; j++) {
                if (j != i) {
                    other.take(tree, tree.thingAt(page, j));
                    sum += grown.areaWith(other) - own.areaWith(other);
                }
            }
            return sum;
        }
    }

    /** Finds how a page that is too full is parted. */
    private static final class Splitter {
        // Of x the orders by the low and by the high side, then those of y.
        private static final int ORDERS = 4;

        private final int[][] orders;
        private final Box head;
        private final Box tail;
        private int chosen;
        private int firsts;

        Splitter() {
            orders = new int[ORDERS][Tree.SLOTS];
            head = new Box();
            tail = new Box();
        }

        void plan(Tree tree, int page) {
            for (int order = 0; order < ORDERS; order++) {
                arrange(tree, page, order);
            }
            int entries = tree.size[page];
            int byX = margins(tree, 0, entries) + margins(tree, 1, entries);
            int byY = margins(tree, 2, entries) + margins(tree, 3, entries);
            chooseParting(tree, byX <= byY ? 0 : 2, entries);
        }

        /** As planned. */
        void part(Tree tree, int page, int fresh) {
            int entries = tree.size[page];
            tree.size[page] = 0;
            for (int i = 0; i < entries; i++) {
                tree.append(i < firsts ? page : fresh, orders[chosen][i]);
            }
            tree.fit(page);
            tree.fit(fresh);
        }

        private void arrange(Tree tree, int page, int order) {
            int[] row = orders[order];
            for (int i = 0; i < tree.size[page]; i++) {
                int thing = tree.thingAt(page, i);
                int at = i;
                while (at > 0 && isAhead(tree, order, thing, row[at - 1])) {
                    row[at] = row[at - 1];
                    at--;
                }
                row[at] = thing;
            }
        }

        private static boolean isAhead(Tree tree, int order, int thing, int other) {
            int low = order / 2;
            int high = low + 2;
            int lead = order % 2 == 0 ? low : high;
            int next = order % 2 == 0 ? high : low;
            int difference = tree.side[4 * thing + lead] - tree.side[4 * other + lead];
            return difference != 0 ? difference < 0 : tree.side[4 * thing + next] < tree.side[4 * other + next];
        }

        private int margins(Tree tree, int order, int entries) {
            int sum = 0;
            for (int k = tree.least; k <= entries - tree.least; k++) {
                boxRun(tree, order, 0, k, head);
                boxRun(tree, order, k, entries, tail);
                sum += head.margin() + tail.margin();
            }
            return sum;
        }

        private void chooseParting(Tree tree, int firstOrder, int entries) {
            int leastOverlap = Integer.MAX_VALUE;
            int leastArea = Integer.MAX_VALUE;
            chosen = firstOrder;
            firsts = tree.least;
            for (int order = firstOrder; order < firstOrder + 2; order++) {
                for (int k = tree.least; k <= entries - tree.least; k++) {
                    boxRun(tree, order, 0, k, head);
                    boxRun(tree, order, k, entries, tail);
                    int shared = head.areaWith(tail);
                    int area = head.area() + tail.area();
                    if (shared < leastOverlap || shared == leastOverlap && area < leastArea) {
                        leastOverlap = shared;
                        leastArea = area;
                        chosen = order;
                        firsts = k;
                    }
                }
            }
        }

        private void boxRun(Tree tree, int order, int from, int to, Box box) {
            int[] row = orders[order];
            box.take(tree, row[from]);
            for (int i = from + 1; i < to; i++) {
                int at = 4 * row[i];
                box.x1 = Math.min(box.x1, tree.side[at]);
                box.y1 = Math.min(box.y1, tree.side[at + 1]);
                box.x2 = Math.max(box.x2, tree.side[at + 2]);
                box.y2 = Math.max(box.y2, tree.side[at + 3]);
            }
        }
    }

    /** Brings rectangles into a tree and takes them out of it. */
    private static final class Grower {
        private static final int FIRST_ROOM = 64;
        private static final int MOST_TURNS = 1000000;

        private final Chooser chooser;
        private final Splitter splitter;
        private final int[] apart;
        // Things that are out of the tree and wait to come, the next one last; and the levels to which they come.
        private int[] waiting;
        private int[] waitingLevel;
        private int waits;
        // Of each level the last act in which something was reinserted there.
        private int[] reinsertedIn;
        private int act;

        Grower() {
            chooser = new Chooser();
            splitter = new Splitter();
            apart = new int[Tree.SLOTS];
            waiting = new int[FIRST_ROOM];
            waitingLevel = new int[FIRST_ROOM];
            reinsertedIn = new int[FIRST_ROOM];
            waits = 0;
            act = 0;
        }

        int firstPageFor(Tree tree, int x1, int y1, int x2, int y2) {
            chooser.coming.set(x1, y1, x2, y2);
            return chooser.pageFor(tree, 0);
        }

        /** The rectangle's sides are set. */
        void bringRect(Tree tree, int id) {
            act++;
            await(id, 0);
            bringAll(tree);
        }

        void takeRect(Tree tree, int id) {
            act++;
            int page = tree.home[id];
            tree.detach(id);
            tree.rects--;
            for (int steps = 0; page != NONE && steps < tree.pages; steps++) {
                int above = tree.home[IDS + page];
                if (above != NONE && tree.size[page] < tree.least) {
                    tree.detach(IDS + page);
                    awaitEntries(tree, page);
                } else {
                    tree.fit(page);
                }
                page = above;
            }
            bringAll(tree);
            tree.lowerRoot();
        }

        /** From the last to the first, for what begins to wait last comes first. */
        private void awaitEntries(Tree tree, int page) {
            for (int i = tree.size[page] - 1; i >= 0; i--) {
                await(tree.thingAt(page, i), tree.level[page]);
            }
        }

        private void await(int thing, int level) {
            if (waits >= waiting.length) {
                waiting = Arrays.copyOf(waiting, 2 * waiting.length);
                waitingLevel = Arrays.copyOf(waitingLevel, waiting.length);
            }
            waiting[waits] = thing;
            waitingLevel[waits] = level;
            waits++;
        }

        /** What an entry throws out comes again before the entries that waited already: so the last one goes first. */
        private void bringAll(Tree tree) {
            for (int turns = 0; waits > 0 && turns < MOST_TURNS; turns++) {
                waits--;
                int thing = waiting[waits];
                chooser.coming.take(tree, thing);
                int page = chooser.pageFor(tree, waitingLevel[waits]);
                tree.append(page, thing);
                tree.fitUp(page);
                for (int steps = 0; tree.size[page] > tree.most && steps < MOST_TURNS; steps++) {
                    if (page != tree.root && !wasReinserted(tree.level[page])) {
                        reinsert(tree, page);
                    } else {
                        page = split(tree, page);
                    }
                }
            }
        }

        private boolean wasReinserted(int level) {
            return level < reinsertedIn.length && reinsertedIn[level] == act;
        }

        private void reinsert(Tree tree, int page) {
            int level = tree.level[page];
            if (level >= reinsertedIn.length) {
                reinsertedIn = Arrays.copyOf(reinsertedIn, 2 * level);
            }
            reinsertedIn[level] = act;
            tree.reinserts++;
            measureApart(tree, page);
            for (int i = 0; i < tree.again; i++) {
                int farthest = farthestApart(tree.size[page]);
                int thing = tree.thingAt(page, farthest);
                tree.detach(thing);
                closeGap(farthest, tree.size[page]);
                await(thing, level);
            }
            tree.fitUp(page);
        }

        private void measureApart(Tree tree, int page) {
            int whole = IDS + page;
            for (int i = 0; i < tree.size[page]; i++) {
                int thing = tree.thingAt(page, i);
                int x = twiceMiddle(tree, thing, 0) - twiceMiddle(tree, whole, 0);
                int y = twiceMiddle(tree, thing, 1) - twiceMiddle(tree, whole, 1);
                apart[i] = x * x + y * y;
            }
        }

        private static int twiceMiddle(Tree tree, int thing, int axis) {
            return tree.side[4 * thing + axis] + tree.side[4 * thing + axis + 2];
        }

        private int farthestApart(int entries) {
            int best = 0;
            for (int i = 1; i < entries; i++) {
                if (apart[i] > apart[best]) {
                    best = i;
                }
            }
            return best;
        }

        private void closeGap(int gap, int entries) {
            for (int i = gap; i < entries; i++) {
                apart[i] = apart[i + 1];
            }
        }

        /** The page above, which may be too full now. */
        private int split(Tree tree, int page) {
            int fresh = tree.newPage(tree.level[page]);
            tree.splits++;
            splitter.plan(tree, page);
            splitter.part(tree, page, fresh);
            int above = tree.home[IDS + page];
            if (above == NONE) {
                above = tree.newPage(tree.level[page] + 1);
                tree.root = above;
                tree.append(above, IDS + page);
            }
            tree.append(above, IDS + fresh);
            tree.fitUp(above);
            return above;
        }
    }

    /** Lays the pages of a tree by their numbers: each ahead of those in it, these in their order. */
    private static final class Numberer {
        private int[] stack;
        private int[] numberOf;

        Numberer() {
            stack = new int[Tree.FIRST_ROOM];
            numberOf = new int[Tree.FIRST_ROOM];
        }

        void lay(Tree from, Tree to) {
            makeRoom(from.pages);
            to.takeRectsFrom(from);
            to.root = 0;
            stack[0] = from.root;
            int waits = 1;
            for (int turns = 0; waits > 0 && turns < from.pages; turns++) {
                waits--;
                int page = stack[waits];
                layPage(from, to, page);
                for (int i = from.size[page] - 1; i >= 0 && from.level[page] > 0; i--) {
                    stack[waits] = from.thingAt(page, i) - IDS;
                    waits++;
                }
            }
        }

        private void layPage(Tree from, Tree to, int page) {
            int number = to.newPage(from.level[page]);
            numberOf[page] = number;
            int at = 4 * (IDS + page);
            to.setSides(IDS + number, from.side[at], from.side[at + 1], from.side[at + 2], from.side[at + 3]);
            int above = from.home[IDS + page];
            if (above != NONE) {
                to.append(numberOf[above], IDS + number);
            }
            for (int i = 0; i < from.size[page] && from.level[page] == 0; i++) {
                to.append(number, from.thingAt(page, i));
            }
        }

        private void makeRoom(int pages) {
            if (pages > stack.length) {
                int room = Math.max(pages, 2 * stack.length);
                stack = new int[room];
                numberOf = new int[room];
            }
        }
    }

    /** Lays all rectangles anew in tiles. */
    private static final class Tiler {
        private static final int MOST_LEVELS = 40;

        // Rectangles at first, then the pages of the level laid last: these are never more.
        private final int[] row;

        Tiler() {
            row = new int[IDS];
        }

        void layAnew(Tree tree) {
            int things = gather(tree);
            arrange(tree, 0, things, 0);
            int slice = sliceOf(things, tree.most);
            for (int from = 0; from < things && slice > 0; from += slice) {
                arrange(tree, from, Math.min(things, from + slice), 1);
            }
            tree.pages = 0;
            things = deal(tree, things, 0);
            for (int level = 1; things > 1 && level < MOST_LEVELS; level++) {
                things = deal(tree, things, level);
            }
            tree.root = row[0] - IDS;
        }

        private int gather(Tree tree) {
            int things = 0;
            for (int id = 0; id < IDS; id++) {
                if (tree.hasRect(id)) {
                    row[things] = id;
                    things++;
                }
            }
            return things;
        }

        private static int pagesFor(int things, int most) {
            return most > 0 ? Math.max(1, (things + most - 1) / most) : 1;
        }

        private static int sliceOf(int things, int most) {
            int pages = pagesFor(things, most);
            int across = 1;
            while (across < pages && across * across < pages) {
                across++;
            }
            return across * most;
        }

        /** By the middles along an axis, then along the other one, then by IDs. */
        private void arrange(Tree tree, int from, int to, int axis) {
            for (int i = from + 1; i < to; i++) {
                int id = row[i];
                int at = i;
                while (at > from && isAhead(tree, id, row[at - 1], axis)) {
                    row[at] = row[at - 1];
                    at--;
                }
                row[at] = id;
            }
        }

        private static boolean isAhead(Tree tree, int id, int other, int axis) {
            int along = Grower.twiceMiddle(tree, id, axis) - Grower.twiceMiddle(tree, other, axis);
            if (along != 0) {
                return along < 0;
            }
            int across = Grower.twiceMiddle(tree, id, 1 - axis) - Grower.twiceMiddle(tree, other, 1 - axis);
            return across != 0 ? across < 0 : id < other;
        }

        /** Deals the row into pages, which are the row then: how many. */
        private int deal(Tree tree, int things, int level) {
            int pages = pagesFor(things, tree.most);
            for (int i = 0; i < pages; i++) {
                int page = tree.newPage(level);
                int to = startOf(tree, things, pages, i + 1);
                for (int at = startOf(tree, things, pages, i); at < to; at++) {
                    tree.append(page, row[at]);
                }
                tree.fit(page);
                row[i] = IDS + page;
            }
            return pages;
        }

        /** The last page takes so many of the one ahead of it that it has enough. */
        private static int startOf(Tree tree, int things, int pages, int i) {
            if (i == pages) {
                return things;
            }
            int start = i * tree.most;
            return i > 0 && i == pages - 1 ? Math.min(start, things - tree.least) : start;
        }
    }

    /** Looks through windows and for what is near. */
    private static final class Seeker {
        // Above every number of pages that came to wait: rectangles as far go behind all of these.
        private static final int BEHIND_PAGES = 1 << 30;

        int foundId;
        int foundFar;
        int opened;
        private final Box pane;
        private final Box box;
        private boolean[] looked;
        // A heap of what waits, with keys that tell which goes first, the least at its top.
        private int[] waiting;
        private long[] keys;
        private int waits;
        private int pagesCome;

        Seeker() {
            pane = new Box();
            box = new Box();
            looked = new boolean[Tree.FIRST_ROOM];
            waiting = new int[IDS + Tree.FIRST_ROOM];
            keys = new long[IDS + Tree.FIRST_ROOM];
        }

        void openWindow(int x1, int y1, int x2, int y2) {
            pane.set(x1, y1, x2, y2);
        }

        int pagesLookedAt(Tree tree) {
            makeRoom(tree.pages);
            looked[0] = true;
            int found = 1;
            for (int page = 1; page < tree.pages; page++) {
                int above = tree.home[IDS + page];
                looked[page] = above >= 0 && looked[above] && pane.meets(tree, IDS + page);
                found += looked[page] ? 1 : 0;
            }
            return found;
        }

        int rectsMet(Tree tree) {
            int found = 0;
            for (int id = 0; id < IDS; id++) {
                if (tree.hasRect(id) && pane.meets(tree, id)) {
                    found++;
                }
            }
            return found;
        }

        int metById(Tree tree, int k) {
            int found = 0;
            for (int id = 0; id < IDS; id++) {
                if (tree.hasRect(id) && pane.meets(tree, id)) {
                    if (found == k) {
                        return id;
                    }
                    found++;
                }
            }
            return -3;
        }

        boolean findNearest(Tree tree, int x, int y, int k) {
            if (k >= tree.rects) {
                return false;
            }
            makeRoom(tree.pages);
            opened = 0;
            pagesCome = 0;
            waits = 0;
            await(IDS + tree.root, 0);
            int found = 0;
            for (int turns = 0; waits > 0 && turns < IDS + tree.pages; turns++) {
                int thing = waiting[0];
                foundFar = (int) (keys[0] >> 32);
                dropFirst();
                if (thing >= IDS) {
                    opened++;
                    awaitEntries(tree, thing - IDS, x, y);
                } else if (found == k) {
                    foundId = thing;
                    return true;
                } else {
                    found++;
                }
            }
            return false;
        }

        private void awaitEntries(Tree tree, int page, int x, int y) {
            for (int i = 0; i < tree.size[page]; i++) {
                int thing = tree.thingAt(page, i);
                box.take(tree, thing);
                await(thing, box.farFrom(x, y));
            }
        }

        private void await(int thing, int far) {
            if (waits >= waiting.length) {
                return;
            }
            int turn = BEHIND_PAGES + thing;
            if (thing >= IDS) {
                turn = pagesCome;
                pagesCome++;
            }
            long key = ((long) far << 32) + turn;
            int at = waits;
            waits++;
            while (at > 0 && key < keys[(at - 1) / 2]) {
                move((at - 1) / 2, at);
                at = (at - 1) / 2;
            }
            waiting[at] = thing;
            keys[at] = key;
        }

        private void dropFirst() {
            waits--;
            long key = keys[waits];
            int at = 0;
            int next = lesserBelow(0);
            for (int steps = 0; next < waits && keys[next] < key && steps < waits; steps++) {
                move(next, at);
                at = next;
                next = lesserBelow(at);
            }
            move(waits, at);
        }

        private int lesserBelow(int at) {
            int left = 2 * at + 1;
            return left + 1 < waits && keys[left + 1] < keys[left] ? left + 1 : left;
        }

        private void move(int from, int to) {
            waiting[to] = waiting[from];
            keys[to] = keys[from];
        }

        private void makeRoom(int pages) {
            if (pages > looked.length) {
                int room = Math.max(pages, 2 * looked.length);
                looked = new boolean[room];
                waiting = new int[IDS + room];
                keys = new long[IDS + room];
            }
        }
    }

    /** Measures what a tree has. */
    private static final class Measurer {
        private static final int GRID_LOW = -1024;
        private static final int GRID_STEP = 256;
        private static final int GRID_ACROSS = 8;
        // Far above the number of doublings between any fill or cost and 1.
        private static final int MOST_DOUBLINGS = 100;

        private final int[] row;
        private final int[] edges;
        private final Box one;
        private final Box other;

        Measurer() {
            row = new int[IDS];
            edges = new int[2 * IDS];
            one = new Box();
            other = new Box();
        }

        int meetingTwos(Tree tree) {
            int found = 0;
            for (int id = 0; id < IDS; id++) {
                if (tree.hasRect(id)) {
                    one.take(tree, id);
                    found += metBelow(tree, id);
                }
            }
            return found;
        }

        private int metBelow(Tree tree, int id) {
            int found = 0;
            for (int lower = 0; lower < id; lower++) {
                if (tree.hasRect(lower) && one.meets(tree, lower)) {
                    found++;
                }
            }
            return found;
        }

        /** Strip by strip between any two neighbouring upright edges. */
        long commonArea(Tree tree) {
            int rects = arrangeByLowY(tree);
            int ends = arrangeEdges(tree, rects);
            long sum = 0L;
            for (int i = 1; i < ends; i++) {
                long wide = edges[i] - edges[i - 1];
                if (wide > 0) {
                    sum += wide * heightCovered(tree, rects, edges[i - 1], edges[i]);
                }
            }
            return sum;
        }

        private int arrangeByLowY(Tree tree) {
            int rects = 0;
            for (int id = 0; id < IDS; id++) {
                if (tree.hasRect(id)) {
                    int at = rects;
                    while (at > 0 && tree.side[4 * id + 1] < tree.side[4 * row[at - 1] + 1]) {
                        row[at] = row[at - 1];
                        at--;
                    }
                    row[at] = id;
                    rects++;
                }
            }
            return rects;
        }

        private int arrangeEdges(Tree tree, int rects) {
            for (int i = 0; i < 2 * rects; i++) {
                int edge = tree.side[4 * row[i / 2] + 2 * (i % 2)];
                int at = i;
                while (at > 0 && edge < edges[at - 1]) {
                    edges[at] = edges[at - 1];
                    at--;
                }
                edges[at] = edge;
            }
            return 2 * rects;
        }

        private int heightCovered(Tree tree, int rects, int left, int right) {
            int covered = 0;
            int top = NOTHING;
            for (int i = 0; i < rects; i++) {
                int at = 4 * row[i];
                if (tree.side[at] <= left && tree.side[at + 2] >= right && tree.side[at + 3] > top) {
                    covered += tree.side[at + 3] - Math.max(top, tree.side[at + 1]);
                    top = tree.side[at + 3];
                }
            }
            return covered;
        }

        long gridOfRects(Tree tree) {
            long bits = 0L;
            for (int id = 0; id < IDS; id++) {
                if (tree.hasRect(id)) {
                    bits |= squaresOf(tree, id);
                }
            }
            return bits;
        }

        long gridOfLeaves(Tree tree) {
            long bits = 0L;
            for (int page = 0; page < tree.pages; page++) {
                if (tree.level[page] == 0 && tree.size[page] > 0) {
                    bits |= squaresOf(tree, IDS + page);
                }
            }
            return bits;
        }

        private static long squaresOf(Tree tree, int thing) {
            int at = 4 * thing;
            long bits = 0L;
            int lastX = squareOf(tree.side[at + 2]);
            int lastY = squareOf(tree.side[at + 3]);
            for (int y = squareOf(tree.side[at + 1]); y <= lastY; y++) {
                for (int x = squareOf(tree.side[at]); x <= lastX; x++) {
                    bits |= 1L << (GRID_ACROSS * y + x);
                }
            }
            return bits;
        }

        private static int squareOf(int place) {
            return (place - GRID_LOW) / GRID_STEP;
        }

        /** Every page but the root is an entry, as is every rectangle. */
        float fillOf(Tree tree) {
            int entries = tree.rects + tree.pages - 1;
            int room = tree.most * tree.pages;
            return room > 0 ? (float) entries / (float) room : 0.0f;
        }

        double costOf(Tree tree, int w, int h) {
            double sum = 0.0;
            for (int page = 0; page < tree.pages; page++) {
                if (tree.size[page] > 0) {
                    one.take(tree, IDS + page);
                    sum = sum + (double) (one.x2 - one.x1 + w) * (double) (one.y2 - one.y1 + h);
                }
            }
            return sum / 4000000.0;
        }

        long overlapOnLevel(Tree tree, int level) {
            int found = 0;
            long sum = 0L;
            // A level has no more pages than there are rectangles, for none but a lone root is empty.
            for (int page = 0; page < tree.pages && found < row.length; page++) {
                if (tree.level[page] == level) {
                    one.take(tree, IDS + page);
                    sum += overlapWithRow(tree, found);
                    row[found] = IDS + page;
                    found++;
                }
            }
            return sum;
        }

        private long overlapWithRow(Tree tree, int things) {
            long sum = 0L;
            for (int i = 0; i < things; i++) {
                other.take(tree, row[i]);
                sum += one.areaWith(other);
            }
            return sum;
        }

        /** The bits by hand, for the library that may be used has no function for them; a fill is from 0 to 1. */
        static int bitsOf(float fill) {
            if (fill <= 0.0f) {
                return 0;
            }
            float rest = fill;
            int exponent = 127;
            for (int i = 0; i < MOST_DOUBLINGS && rest < 1.0f; i++) {
                rest = rest * 2.0f;
                exponent--;
            }
            return (exponent << 23) + (int) ((rest - 1.0f) * 8388608.0f);
        }

        /** A cost is 0 or more. */
        static long bitsOf(double cost) {
            if (cost <= 0.0) {
                return 0L;
            }
            double rest = cost;
            long exponent = 1023L;
            for (int i = 0; i < MOST_DOUBLINGS && rest < 1.0; i++) {
                rest = rest * 2.0;
                exponent--;
            }
            for (int i = 0; i < MOST_DOUBLINGS && rest >= 2.0; i++) {
                rest = rest / 2.0;
                exponent++;
            }
            return (exponent << 52) + (long) ((rest - 1.0) * 4503599627370496.0);
        }
    }

    /** The states ahead of the last acts, in a ring. */
    private static final class History {
        private static final int MOST_HELD = 8;

        int held;
        private final Tree[] trees;
        private final int[] seeds;
        private int newest;

        History() {
            trees = new Tree[MOST_HELD];
            seeds = new int[MOST_HELD];
            held = 0;
            newest = 0;
        }

        void remember(Tree tree, int seed) {
            newest = (newest + 1) % MOST_HELD;
            Tree kept = trees[newest];
            if (kept == null) {
                kept = new Tree();
                trees[newest] = kept;
            }
            kept.copyFrom(tree);
            seeds[newest] = seed;
            held = Math.min(MOST_HELD, held + 1);
        }

        int newestSeed() {
            return seeds[newest];
        }

        void giveBack(Tree tree) {
            Tree kept = trees[newest];
            if (held <= 0 || kept == null) {
                return;
            }
            tree.copyFrom(kept);
            newest = (newest + MOST_HELD - 1) % MOST_HELD;
            held--;
        }

        void forget() {
            held = 0;
        }
    }
}
