/**
 * Outlines from dots: a picture of dark and light dots is read from a text and changed,
 * its borders are walked round, and each border is told by the polygon of fewest vertices
 * and by an outline that is rounded where that polygon has no sharp corner.
 *
 * Refusals are answers (BAD, STATE, FULL, NONE); no call ever throws.
 */
public final class DotOutlines {
    public static final int NONE = -1000000, BAD = -1000001, STATE = -1000002, FULL = -1000003;

    private static final int FAULT_BASE = -1000100;
    private static final int SHARP_AT_FIRST = 8;
    private static final int SHARP_MOST = 32;
    private static final int IMAGES = 2;

    private final Tape tape;
    private final Reading reading;
    private final Picture now;
    private final Picture imageZero;
    private final Picture imageOne;
    private final Acts acts;
    private final Borders found;
    private final Stretches stretches;
    private final Polygons polygons;
    private final Filling filling;
    private int latestFault;

    public DotOutlines() {
        tape = new Tape();
        reading = new Reading();
        now = new Picture();
        imageZero = new Picture();
        imageOne = new Picture();
        acts = new Acts();
        Borders walks = new Borders();
        Stretches measures = new Stretches(walks);
        Polygons shapes = new Polygons(walks, measures);
        found = walks;
        stretches = measures;
        polygons = shapes;
        filling = new Filling(shapes);
    }

    // ---- what is told

    public int feed(int letter) {
        if (letter < 0 || letter > 255) {
            return BAD;
        }
        return tape.add(letter) ? tape.length : FULL;
    }

    public int picture() {
        int number = reading.read(tape);
        tape.length = 0;
        if (number != 0) {
            latestFault = number;
            return FAULT_BASE - reading.place;
        }
        now.width = reading.width;
        now.height = reading.height;
        now.dots = reading.dots;
        now.joining = 0;
        now.sharpness = SHARP_AT_FIRST;
        acts.size = 0;
        return now.darkDots();
    }

    public int fault() {
        return latestFault;
    }

    public int undo() {
        return acts.takeBack(now) ? acts.size : STATE;
    }

    // ---- what is done

    public int flip(int x, int y) {
        if (!now.has(x, y)) {
            return BAD;
        }
        acts.remember(now);
        now.dots ^= Grid.bit(x, y);
        return now.isDark(x, y) ? 1 : 0;
    }

    public int frame(int x, int y, int x2, int y2, int v) {
        if (!now.has(x, y) || !now.has(x2, y2) || x2 < x || y2 < y || v < 0 || v > 2) {
            return BAD;
        }
        acts.remember(now);
        now.lay(Grid.block(x, y, x2, y2), v);
        return now.darkDots();
    }

    public int joined(int v) {
        if (!now.isThere()) {
            return STATE;
        }
        if (v < 0 || v > 1) {
            return BAD;
        }
        acts.remember(now);
        int before = now.joining;
        now.joining = v;
        return before;
    }

    public int sharp(int v) {
        if (!now.isThere()) {
            return STATE;
        }
        if (v < 1 || v > SHARP_MOST) {
            return BAD;
        }
        acts.remember(now);
        int before = now.sharpness;
        now.sharpness = v;
        return before;
    }

    // ---- dots, borders

    public int dot(int x, int y) {
        if (!now.has(x, y)) {
            return BAD;
        }
        return now.isDark(x, y) ? 1 : 0;
    }

    public int borders() {
        return now.isThere() ? walkedBorders() : STATE;
    }

    public int border(int border, int what) {
        Border b = borderNumber(border);
        if (b == null) {
            return BAD;
        }
        switch (what) {
            case 0:
                return b.length;
            case 1:
                return ((now.dots >>> b.first) & 1L) == 1L ? 1 : 0;
            case 2:
                return Long.bitCount(b.within);
            case 3:
                return Grid.columnOf(b.first);
            case 4:
                return Grid.rowOf(b.first);
            case 5:
                return found.turningSteps(b);
            default:
                return BAD;
        }
    }

    public int corner(int border, int k, int what) {
        Border b = borderNumber(border);
        if (b == null || k < 0) {
            return BAD;
        }
        switch (what) {
            case 0:
                return found.xAt(b, k);
            case 1:
                return found.yAt(b, k);
            case 2:
                return found.wayAt(b, k);
            default:
                return BAD;
        }
    }

    public int inside(int border, int x, int y) {
        Border b = borderNumber(border);
        if (b == null || !now.has(x, y)) {
            return BAD;
        }
        return (b.within & Grid.bit(x, y)) != 0L ? 1 : 0;
    }

    // ---- straight

    public int straight(int border, int i, int s) {
        Border b = borderNumber(border);
        if (b == null || !b.hasStretch(i, s)) {
            return BAD;
        }
        return stretches.offOf(b, i, s) == Stretches.CROOKED ? 0 : 1;
    }

    public int off(int border, int i, int s) {
        Border b = borderNumber(border);
        if (b == null || !b.hasStretch(i, s)) {
            return BAD;
        }
        int sum = stretches.offOf(b, i, s);
        return sum == Stretches.CROOKED ? NONE : sum;
    }

    public int longest(int border, int i) {
        Border b = borderNumber(border);
        if (b == null || !b.hasCorner(i)) {
            return BAD;
        }
        return stretches.longestFrom(b, i);
    }

    // ---- polygons

    public int best(int border, int what) {
        Border b = shapedBorder(border);
        if (b == null) {
            return BAD;
        }
        switch (what) {
            case 0:
                return b.vertices;
            case 1:
                return b.bestOff;
            case 2:
                return polygons.sharpVertices(b, now.sharpness);
            case 3:
                return polygons.twiceTheArea(b);
            default:
                return BAD;
        }
    }

    public int vertex(int border, int k, int what) {
        Border b = shapedBorder(border);
        if (b == null || !b.hasVertex(k)) {
            return BAD;
        }
        switch (what) {
            case 0:
                return polygons.cornerOfVertex(b, k);
            case 1:
                return polygons.bendAt(b, k).turn();
            case 2:
                return polygons.bendAt(b, k).isSharp(now.sharpness) ? 1 : 0;
            default:
                return BAD;
        }
    }

    public int past(int border, int i) {
        Border b = borderNumber(border);
        if (b == null || !b.hasCorner(i)) {
            return BAD;
        }
        return polygons.fewestThrough(b, i);
    }

    public int point(int border, int k, int i, int what) {
        Border b = shapedBorder(border);
        if (b == null || !b.hasVertex(k) || i < 1 || i > 3 || what < 0 || what > 1) {
            return BAD;
        }
        Bend bend = polygons.bendAt(b, k);
        if (bend.isSharp(now.sharpness)) {
            return NONE;
        }
        return what == 0 ? bend.xOnRound(i) : bend.yOnRound(i);
    }

    // ---- filled again

    public int filled(int border, int kind, int x, int y) {
        Border b = shapedBorder(border);
        if (b == null || kind < 0 || kind > 1 || !now.has(x, y)) {
            return BAD;
        }
        return (filling.by(b, kind, now.sharpness) & Grid.bit(x, y)) != 0L ? 1 : 0;
    }

    public int differ(int border, int kind) {
        Border b = shapedBorder(border);
        if (b == null || kind < 0 || kind > 1) {
            return BAD;
        }
        return Long.bitCount(filling.by(b, kind, now.sharpness) ^ b.within);
    }

    public int wrong(int kind) {
        if (!now.isThere()) {
            return STATE;
        }
        if (kind < 0 || kind > 1) {
            return BAD;
        }
        long unlike = now.dots;
        int number = walkedBorders();
        for (int n = 0; n < number; n++) {
            Border b = shapedBorder(n);
            if (b != null) {
                unlike ^= filling.by(b, kind, now.sharpness);
            }
        }
        return Long.bitCount(unlike);
    }

    public int all(int what) {
        if (!now.isThere()) {
            return STATE;
        }
        if (what < 0 || what > 2) {
            return BAD;
        }
        int sum = 0;
        int number = walkedBorders();
        for (int n = 0; n < number; n++) {
            Border b = shapedBorder(n);
            if (b != null) {
                sum += sizeOf(b, what);
            }
        }
        return sum;
    }

    public int image(int k) {
        Picture kept = imageNumber(k);
        if (kept == null) {
            return BAD;
        }
        if (!now.isThere()) {
            return STATE;
        }
        kept.becomeLike(now);
        return 1;
    }

    public int restore(int k) {
        Picture kept = imageNumber(k);
        if (kept == null) {
            return BAD;
        }
        if (!kept.isThere()) {
            return STATE;
        }
        now.becomeLike(kept);
        acts.size = 0;
        return 1;
    }

    public int count(int what) {
        switch (what) {
            case 0:
                return now.width * now.height;
            case 1:
                return now.darkDots();
            case 2:
                return now.joining;
            case 3:
                return now.sharpness;
            case 4:
                return acts.size;
            case 5:
                return tape.length;
            default:
                return BAD;
        }
    }

    // ---- what the calls share

    private int walkedBorders() {
        found.follow(now.dots, now.joining);
        return found.size;
    }

    /** The border of that number, null without one or without a picture. */
    private Border borderNumber(int number) {
        if (!now.isThere()) {
            return null;
        }
        found.follow(now.dots, now.joining);
        return found.at(number);
    }

    /** The border of that number with its best polygon found; null as above. */
    private Border shapedBorder(int number) {
        Border b = borderNumber(number);
        if (b != null) {
            polygons.seek(b);
        }
        return b;
    }

    private Picture imageNumber(int k) {
        if (k < 0 || k >= IMAGES) {
            return null;
        }
        return k == 0 ? imageZero : imageOne;
    }

    private int sizeOf(Border b, int what) {
        if (what == 0) {
            return b.length;
        }
        return what == 1 ? b.vertices : polygons.sharpVertices(b, now.sharpness);
    }

    /** Sets of dots are kept as the bits of a long: dot x, y is bit 8y + x, so bits rise in reading order. */
    static final class Grid {
        static final int SIDE = 8;
        static final int DOTS = 64;
        private static final long ROW = 255L;

        private Grid() {
        }

        static int columnOf(int number) {
            return number & 7;
        }

        static int rowOf(int number) {
            return (number >> 3) & 7;
        }

        /** One dot; none of them outside, where all is light. */
        static long bit(int x, int y) {
            if (x < 0 || x >= SIDE || y < 0 || y >= SIDE) {
                return 0L;
            }
            return 1L << (SIDE * y + x);
        }

        /** The dots of row y from column x on to the right. */
        static long rowFrom(int x, int y) {
            if (x < 0 || x >= SIDE || y < 0 || y >= SIDE) {
                return 0L;
            }
            return ((ROW << x) & ROW) << (SIDE * y);
        }

        static long block(int x, int y, int x2, int y2) {
            long dots = 0L;
            for (int row = Math.max(y, 0); row <= y2 && row < SIDE; row++) {
                dots |= rowFrom(x, row) & ~rowFrom(x2 + 1, row);
            }
            return dots;
        }
    }

    /** The bytes that came and are not read yet. */
    static final class Tape {
        private static final int MOST = 90;
        private final int[] letters = new int[MOST];
        int length;

        boolean add(int letter) {
            if (length < 0 || length >= MOST) {
                return false;
            }
            letters[length] = letter;
            length++;
            return true;
        }

        /** The letter at a place; -1, which is no token, behind the end. */
        int letterAt(int place) {
            return place >= 0 && place < length && place < MOST ? letters[place] : -1;
        }
    }

    /** One reading of a tape as a picture. */
    static final class Reading {
        private static final int HEAD = 4;
        int width;
        int height;
        long dots;
        int place;

        /** The number of the first fault, whose place stays in place; 0 if there is none. */
        int read(Tape tape) {
            width = 0;
            height = 0;
            dots = 0L;
            int length = tape.length;
            for (int at = 0; at < length; at++) {
                int letter = tape.letterAt(at);
                int number = at < HEAD ? faultInHead(at, letter) : faultInRows(at - HEAD, letter);
                if (number != 0) {
                    place = at;
                    return number;
                }
            }
            place = length;
            return length >= HEAD && length == HEAD + height * (width + 1) ? 0 : 1;
        }

        private int faultInHead(int at, int letter) {
            if (at == 0) {
                return letter == 'd' ? 0 : 1;
            }
            if (at == HEAD - 1) {
                return letter == ';' ? 0 : 1;
            }
            if (letter < '0' || letter > '9') {
                return 1;
            }
            int size = letter - '0';
            if (size < 1 || size > Grid.SIDE) {
                return 2;
            }
            if (at == 1) {
                width = size;
            } else {
                height = size;
            }
            return 0;
        }

        private int faultInRows(int behindHead, int letter) {
            int rowLength = width + 1;
            if (rowLength <= 1) {
                return 1;
            }
            int x = behindHead % rowLength;
            int y = behindHead / rowLength;
            if (y >= height) {
                return 1;
            }
            if (x == width) {
                return letter == ';' ? 0 : 1;
            }
            if (letter < 'a' || letter > 'z') {
                return 1;
            }
            if (letter != 'x' && letter != 'o') {
                return 2;
            }
            if (letter == 'x') {
                dots |= Grid.bit(x, y);
            }
            return 0;
        }
    }

    /** A picture with JOINED and SHARP; its width is 0 where there is none. */
    static final class Picture {
        int width;
        int height;
        long dots;
        int joining;
        int sharpness;

        boolean isThere() {
            return width > 0;
        }

        boolean has(int x, int y) {
            return x >= 0 && x < width && y >= 0 && y < height;
        }

        boolean isDark(int x, int y) {
            return (dots & Grid.bit(x, y)) != 0L;
        }

        int darkDots() {
            return Long.bitCount(dots);
        }

        /** Makes the dots of a block light (0), dark (1) or turned (2). */
        void lay(long block, int v) {
            if (v == 0) {
                dots &= ~block;
            } else if (v == 1) {
                dots |= block;
            } else {
                dots ^= block;
            }
        }

        void becomeLike(Picture other) {
            width = other.width;
            height = other.height;
            dots = other.dots;
            joining = other.joining;
            sharpness = other.sharpness;
        }
    }

    /** How the picture was ahead of each act that can be undone; no act changes its width or height. */
    static final class Acts {
        private static final int MOST = 8;
        private final long[] dots = new long[MOST];
        private final int[] joinings = new int[MOST];
        private final int[] sharpnesses = new int[MOST];
        int size;

        void remember(Picture picture) {
            if (size >= MOST) {
                forgetOldest();
            }
            if (size < 0 || size >= MOST) {
                return;
            }
            dots[size] = picture.dots;
            joinings[size] = picture.joining;
            sharpnesses[size] = picture.sharpness;
            size++;
        }

        private void forgetOldest() {
            for (int n = 1; n < MOST; n++) {
                dots[n - 1] = dots[n];
                joinings[n - 1] = joinings[n];
                sharpnesses[n - 1] = sharpnesses[n];
            }
            size = MOST - 1;
        }

        boolean takeBack(Picture picture) {
            if (size <= 0 || size > MOST) {
                return false;
            }
            size--;
            picture.dots = dots[size];
            picture.joining = joinings[size];
            picture.sharpness = sharpnesses[size];
            return true;
        }
    }

    /** One border: a part of the rows that Borders keeps, and what has been found about it. */
    static final class Border {
        int start;
        int length;
        int first;
        long within;
        boolean measured;
        int vertices;
        int bestOff;

        void begin(int place, int firstDot) {
            start = place;
            length = 0;
            first = firstDot;
            within = 0L;
            measured = false;
            vertices = 0;
            bestOff = 0;
        }

        boolean hasCorner(int i) {
            return i >= 0 && i < length;
        }

        boolean hasVertex(int k) {
            return k >= 0 && k < vertices;
        }

        boolean hasStretch(int i, int s) {
            return hasCorner(i) && s >= 1 && s < length;
        }

        /** Where corner k, counted round about, stands in the rows. */
        int place(int k) {
            if (k < 0 || length <= 0) {
                return start;
            }
            return start + (k < length ? k : k % length);
        }
    }

    /**
     * The borders of the picture, walked once for as long as its dots and JOINED stay.
     * No side between two dots is walked twice, so one set of rows holds all corners of all borders.
     */
    static final class Borders {
        static final int STEPS_MOST = 144;
        private static final int EAST = 0;
        private static final int SOUTH = 1;
        private static final int NORTH = 3;
        private static final int[] STEP_X = {1, 0, -1, 0};
        private static final int[] STEP_Y = {0, 1, 0, -1};
        // Of the four dots that meet at a corner, the one ahead and to the left, by direction;
        // the one to the right is that of the next direction.
        private static final int[] AHEAD_X = {0, 0, -1, -1};
        private static final int[] AHEAD_Y = {-1, 0, 0, -1};

        private final int[] xs = new int[STEPS_MOST];
        private final int[] ys = new int[STEPS_MOST];
        private final int[] ways = new int[STEPS_MOST];
        private final Border[] known = new Border[Grid.DOTS];
        private boolean walked;
        private long dots;
        private int joining;
        int size;

        Border at(int n) {
            return n >= 0 && n < size && n < Grid.DOTS ? known[n] : null;
        }

        int xAt(Border b, int k) {
            int place = b.place(k);
            return place >= 0 && place < STEPS_MOST ? xs[place] : 0;
        }

        int yAt(Border b, int k) {
            int place = b.place(k);
            return place >= 0 && place < STEPS_MOST ? ys[place] : 0;
        }

        int wayAt(Border b, int k) {
            int place = b.place(k);
            return place >= 0 && place < STEPS_MOST ? ways[place] : 0;
        }

        int turningSteps(Border b) {
            int sum = 0;
            for (int k = 0; k < b.length; k++) {
                if (wayAt(b, k) != wayAt(b, k + 1)) {
                    sum++;
                }
            }
            return sum;
        }

        void follow(long pictureDots, int pictureJoining) {
            if (walked && dots == pictureDots && joining == pictureJoining) {
                return;
            }
            walked = true;
            dots = pictureDots;
            joining = pictureJoining;
            size = 0;
            long rest = dots;
            int start = 0;
            // A border never turns a dot ahead of its own first one, so one pass meets every first dot.
            for (int first = 0; first < Grid.DOTS; first++) {
                if (((rest >>> first) & 1L) == 1L) {
                    Border b = nextBorder();
                    if (b == null) {
                        return;
                    }
                    b.begin(start, first);
                    walk(b, rest);
                    start += b.length;
                    rest ^= b.within;
                }
            }
        }

        private Border nextBorder() {
            if (size < 0 || size >= Grid.DOTS) {
                return null;
            }
            if (known[size] == null) {
                known[size] = new Border();
            }
            size++;
            return known[size - 1];
        }

        private void walk(Border b, long rest) {
            int firstX = Grid.columnOf(b.first);
            int firstY = Grid.rowOf(b.first);
            int x = firstX;
            int y = firstY;
            int way = EAST;
            for (int n = Math.max(b.start, 0); n < STEPS_MOST; n++) {
                xs[n] = x;
                ys[n] = y;
                ways[n] = way;
                b.length++;
                b.within ^= dotsRightOf(x, y, way);
                x += STEP_X[way & 3];
                y += STEP_Y[way & 3];
                boolean left = (rest & dotAhead(x, y, way)) != 0L;
                boolean right = (rest & dotAhead(x, y, way + 1)) != 0L;
                way = nextWay(way, left, right);
                if (x == firstX && y == firstY && way == EAST) {
                    return;
                }
            }
        }

        /** The dots that have the step from corner x, y to their left. */
        private static long dotsRightOf(int x, int y, int way) {
            if (way == SOUTH) {
                return Grid.rowFrom(x, y);
            }
            return way == NORTH ? Grid.rowFrom(x, y - 1) : 0L;
        }

        private static long dotAhead(int x, int y, int way) {
            return Grid.bit(x + AHEAD_X[way & 3], y + AHEAD_Y[way & 3]);
        }

        private int nextWay(int way, boolean left, boolean right) {
            if (right && !left) {
                return way;
            }
            boolean turnsLeft = left && (right || joining == 1);
            return (turnsLeft ? way + 3 : way + 1) & 3;
        }
    }

    /** Which stretches are straight, and how far their corners lie off. */
    static final class Stretches {
        static final int CROOKED = -1;
        // Within half a dot of a line through its ends, a border has no room to turn back, and none to
        // step aside but where the line is half a dot off, every second step ahead or later: 8 and 4.
        static final int STEPS_MOST = 12;
        private static final int ROOM = STEPS_MOST + 1;

        private final Borders borders;
        private final int[] offs = new int[Borders.STEPS_MOST * ROOM];
        private final int[] reaches = new int[Borders.STEPS_MOST];

        Stretches(Borders borders) {
            this.borders = borders;
        }

        /** OFF of a stretch, CROOKED if it is not straight. */
        int offOf(Border b, int i, int s) {
            int x = borders.xAt(b, i);
            int y = borders.yAt(b, i);
            int dx = borders.xAt(b, i + s) - x;
            int dy = borders.yAt(b, i + s) - y;
            int greater = Math.max(Math.abs(dx), Math.abs(dy));
            if (greater == 0) {
                return CROOKED;
            }
            int sum = 0;
            for (int k = 1; k < s; k++) {
                int c = Math.abs(dx * (borders.yAt(b, i + k) - y) - dy * (borders.xAt(b, i + k) - x));
                if (2 * c > greater) {
                    return CROOKED;
                }
                sum += c * c;
            }
            return sum;
        }

        int longestFrom(Border b, int i) {
            for (int s = Math.min(b.length - 1, STEPS_MOST); s > 1; s--) {
                if (offOf(b, i, s) != CROOKED) {
                    return s;
                }
            }
            return 1;
        }

        /** Writes down all stretches of a border, since looking for polygons asks for each of them often. */
        void measure(Border b) {
            if (b.measured) {
                return;
            }
            b.measured = true;
            int most = Math.min(b.length - 1, STEPS_MOST);
            for (int i = 0; i < b.length; i++) {
                int place = b.place(i);
                if (place < 0 || place >= Borders.STEPS_MOST) {
                    return;
                }
                reaches[place] = 1;
                for (int s = 1; s <= most; s++) {
                    int sum = offOf(b, i, s);
                    offs[place * ROOM + s] = sum;
                    reaches[place] = sum == CROOKED ? reaches[place] : s;
                }
            }
        }

        /** Of a measured border: the steps of the longest straight stretch from a place. */
        int reachAt(int place) {
            return place >= 0 && place < Borders.STEPS_MOST ? reaches[place] : 0;
        }

        /** Of a measured border: OFF of a stretch from a place. */
        int offAt(int place, int s) {
            if (place < 0 || place >= Borders.STEPS_MOST || s < 1 || s > STEPS_MOST) {
                return CROOKED;
            }
            return offs[place * ROOM + s];
        }
    }

    /** The best polygon of each border; seek comes ahead of all that is asked about it. */
    static final class Polygons {
        // One vertex weighs more than OFF of a whole border can: so the least sum has the fewest
        // vertices and, of these, the least OFF.
        private static final int VERTEX = 100000;
        private static final int ENDLESS = 1000000000;

        private final Borders borders;
        private final Stretches stretches;
        private final Bend bend = new Bend();
        private final int[] corners = new int[Borders.STEPS_MOST];
        private final int[] costs = new int[Borders.STEPS_MOST + 1];

        Polygons(Borders borders, Stretches stretches) {
            this.borders = borders;
            this.stretches = stretches;
        }

        int fewestThrough(Border b, int i) {
            stretches.measure(b);
            return costOfRound(b, i) / VERTEX;
        }

        /** The number of the corner at vertex k, counted round about. */
        int cornerOfVertex(Border b, int k) {
            if (k < 0 || b.vertices <= 0) {
                return 0;
            }
            int place = b.start + k % b.vertices;
            return place >= 0 && place < Borders.STEPS_MOST ? corners[place] : 0;
        }

        /** The bend at vertex k; it is the same object for each, so use it before asking for another. */
        Bend bendAt(Border b, int k) {
            int before = cornerOfVertex(b, k + Math.max(b.vertices, 1) - 1);
            int own = cornerOfVertex(b, k);
            int next = cornerOfVertex(b, k + 1);
            bend.from(borders.xAt(b, before), borders.yAt(b, before));
            bend.by(borders.xAt(b, own), borders.yAt(b, own));
            bend.to(borders.xAt(b, next), borders.yAt(b, next));
            return bend;
        }

        int sharpVertices(Border b, int sharpness) {
            int sum = 0;
            for (int k = 0; k < b.vertices; k++) {
                if (bendAt(b, k).isSharp(sharpness)) {
                    sum++;
                }
            }
            return sum;
        }

        int twiceTheArea(Border b) {
            int sum = 0;
            for (int k = 0; k < b.vertices; k++) {
                int own = cornerOfVertex(b, k);
                int next = cornerOfVertex(b, k + 1);
                sum += borders.xAt(b, own) * borders.yAt(b, next) - borders.yAt(b, own) * borders.xAt(b, next);
            }
            return Math.abs(sum);
        }

        void seek(Border b) {
            if (b.vertices > 0) {
                return;
            }
            stretches.measure(b);
            int first = 0;
            int least = ENDLESS;
            // The last stretch ends at the first vertex, so that cannot lie further on than a stretch is long.
            for (int i = 0; i < b.length && i < Stretches.STEPS_MOST; i++) {
                int cost = costOfRound(b, i);
                if (cost < least) {
                    least = cost;
                    first = i;
                }
            }
            b.bestOff = costOfRound(b, first) % VERTEX;
            writeVertices(b, first);
        }

        /**
         * Of a measured border: the least cost of a polygon that has corner i; costs[j] is then that of going on from
         * j steps behind i to the end of the round.
         */
        private int costOfRound(Border b, int i) {
            int length = Math.min(b.length, Borders.STEPS_MOST);
            if (length <= 0) {
                return 0;
            }
            costs[length] = 0;
            for (int j = length - 1; j >= 0; j--) {
                int place = b.place(i + j);
                int most = Math.min(stretches.reachAt(place), length - j);
                int least = ENDLESS;
                for (int s = 1; s <= most; s++) {
                    int sum = stretches.offAt(place, s);
                    if (sum != Stretches.CROOKED) {
                        least = Math.min(least, VERTEX + sum + costs[j + s]);
                    }
                }
                costs[j] = least;
            }
            return costs[0];
        }

        // The nearest next corner that keeps to the least cost, each time: so the numbers are the
        // lesser ones where polygons of that cost are first unlike.
        private void writeVertices(Border b, int first) {
            int length = Math.min(b.length, Borders.STEPS_MOST);
            int j = 0;
            for (int n = 0; n < length && j < length; n++) {
                int place = b.start + n;
                if (place < 0 || place >= Borders.STEPS_MOST) {
                    return;
                }
                corners[place] = first + j;
                b.vertices = n + 1;
                j += nearestStep(b, first, j, length);
            }
        }

        private int nearestStep(Border b, int first, int j, int length) {
            int place = b.place(first + j);
            int most = Math.min(stretches.reachAt(place), length - j);
            for (int s = 1; s < most; s++) {
                int sum = stretches.offAt(place, s);
                if (sum != Stretches.CROOKED && VERTEX + sum + costs[j + s] == costs[j]) {
                    return s;
                }
            }
            return Math.max(most, 1);
        }
    }

    /** A vertex v of a polygon with the one ahead of it, u, and the one behind it, w. */
    static final class Bend {
        static final int LAST = 4;
        // Parts of 16 that the middle of u and v, v itself and the middle of v and w have in the
        // points by which the outline is rounded, both middles among them.
        private static final int[] PART_BEFORE = {16, 9, 4, 1, 0};
        private static final int[] PART_OWN = {0, 6, 8, 6, 0};
        private static final int[] PART_BEHIND = {0, 1, 4, 9, 16};

        private int ux;
        private int uy;
        private int vx;
        private int vy;
        private int wx;
        private int wy;

        void from(int x, int y) {
            ux = x;
            uy = y;
        }

        void by(int x, int y) {
            vx = x;
            vy = y;
        }

        void to(int x, int y) {
            wx = x;
            wy = y;
        }

        int turn() {
            int cross = (vx - ux) * (wy - vy) - (vy - uy) * (wx - vx);
            int steps = greater(vx - ux, vy - uy) + greater(wx - vx, wy - vy);
            return steps == 0 ? 0 : 8 * Math.abs(cross) / steps;
        }

        boolean isSharp(int sharpness) {
            int onward = (vx - ux) * (wx - vx) + (vy - uy) * (wy - vy);
            return onward <= 0 || turn() >= sharpness;
        }

        private static int greater(int dx, int dy) {
            return Math.max(Math.abs(dx), Math.abs(dy));
        }

        int xOnRound(int i) {
            return onRound(i, ux, vx, wx);
        }

        int yOnRound(int i) {
            return onRound(i, uy, vy, wy);
        }

        int xOfVertex() {
            return 32 * vx;
        }

        int yOfVertex() {
            return 32 * vy;
        }

        int xOfNext() {
            return 32 * wx;
        }

        int yOfNext() {
            return 32 * wy;
        }

        // 32 times the point, which makes it whole: parts of 16, of middles that are halves.
        private static int onRound(int i, int u, int v, int w) {
            if (i < 0 || i > LAST) {
                return 0;
            }
            return PART_BEFORE[i] * (u + v) + 2 * PART_OWN[i] * v + PART_BEHIND[i] * (v + w);
        }
    }

    /** Polygons and outlines filled with dots; all lengths are 32 times those of the picture. */
    static final class Filling {
        private static final int SCALE = 32;
        private static final int HALF = 16;

        private final Polygons polygons;

        Filling(Polygons polygons) {
            this.polygons = polygons;
        }

        long by(Border b, int kind, int sharpness) {
            long dots = 0L;
            for (int k = 0; k < b.vertices; k++) {
                Bend bend = polygons.bendAt(b, k);
                if (kind == 0) {
                    dots ^= rightOf(bend.xOfVertex(), bend.yOfVertex(), bend.xOfNext(), bend.yOfNext());
                } else if (bend.isSharp(sharpness)) {
                    dots ^= rightOfSharp(bend);
                } else {
                    dots ^= rightOfRound(bend);
                }
            }
            return dots;
        }

        private static long rightOfSharp(Bend bend) {
            int x = bend.xOfVertex();
            int y = bend.yOfVertex();
            return rightOf(bend.xOnRound(0), bend.yOnRound(0), x, y)
                    ^ rightOf(x, y, bend.xOnRound(Bend.LAST), bend.yOnRound(Bend.LAST));
        }

        private static long rightOfRound(Bend bend) {
            long dots = 0L;
            for (int i = 0; i < Bend.LAST; i++) {
                dots ^= rightOf(bend.xOnRound(i), bend.yOnRound(i), bend.xOnRound(i + 1), bend.yOnRound(i + 1));
            }
            return dots;
        }

        /** The dots that have a side to their left. */
        private static long rightOf(int x, int y, int x2, int y2) {
            if (y > y2) {
                return rightOfFalling(x2, y2, x, y);
            }
            return rightOfFalling(x, y, x2, y2);
        }

        private static long rightOfFalling(int x, int y, int x2, int y2) {
            long dots = 0L;
            for (int row = 0; row < Grid.SIDE; row++) {
                int middle = SCALE * row + HALF;
                if (y < middle && y2 >= middle) {
                    dots |= Grid.rowFrom(firstColumnRightOf(x, y, x2, y2, middle), row);
                }
            }
            return dots;
        }

        // Multiplied out, not divided, so that a side through a centre is told from one beside it.
        private static int firstColumnRightOf(int x, int y, int x2, int y2, int middle) {
            for (int column = 0; column < Grid.SIDE; column++) {
                int centre = SCALE * column + HALF;
                if ((middle - y) * (x2 - x) < (centre - x) * (y2 - y)) {
                    return column;
                }
            }
            return Grid.SIDE;
        }
    }
}
