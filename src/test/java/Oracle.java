import java.util.ArrayList;
import java.util.List;

/**
 * The document once more, for tests to compare with: written apart from the class and in another
 * way (fresh grids, lists of places, the coder's flow charts step by step), and slow.
 */
final class Oracle {
    /** q in hexadecimal, the state after a likely bit, after another, and whether the likely turns. */
    static final int[][] TABLE = {
        {0x5601, 1, 1, 1}, {0x3401, 2, 6, 0}, {0x1801, 3, 9, 0}, {0x0AC1, 4, 12, 0},
        {0x0521, 5, 29, 0}, {0x0221, 38, 33, 0}, {0x5601, 7, 6, 1}, {0x5401, 8, 14, 0},
        {0x4801, 9, 14, 0}, {0x3801, 10, 14, 0}, {0x3001, 11, 17, 0}, {0x2401, 12, 18, 0},
        {0x1C01, 13, 20, 0}, {0x1601, 29, 21, 0}, {0x5601, 15, 14, 1}, {0x5401, 16, 14, 0},
        {0x5101, 17, 15, 0}, {0x4801, 18, 16, 0}, {0x3801, 19, 17, 0}, {0x3401, 20, 18, 0},
        {0x3001, 21, 19, 0}, {0x2801, 22, 19, 0}, {0x2401, 23, 20, 0}, {0x2201, 24, 21, 0},
        {0x1C01, 25, 22, 0}, {0x1801, 26, 23, 0}, {0x1601, 27, 24, 0}, {0x1401, 28, 25, 0},
        {0x1201, 29, 26, 0}, {0x1101, 30, 27, 0}, {0x0AC1, 31, 28, 0}, {0x09C1, 32, 29, 0},
        {0x08A1, 33, 30, 0}, {0x0521, 34, 31, 0}, {0x0441, 35, 32, 0}, {0x02A1, 36, 33, 0},
        {0x0221, 37, 34, 0}, {0x0141, 38, 35, 0}, {0x0111, 39, 36, 0}, {0x0085, 40, 37, 0},
        {0x0049, 41, 38, 0}, {0x0025, 42, 39, 0}, {0x0015, 43, 40, 0}, {0x0009, 44, 41, 0},
        {0x0005, 45, 42, 0}, {0x0001, 45, 43, 0}, {0x5601, 46, 46, 0},
    };

    static final class Memory {
        final int[] state = new int[8192];
        final int[] likely = new int[8192];

        void passed(int context, boolean wasLikely) {
            int[] row = TABLE[state[context]];
            if (!wasLikely && row[3] == 1) {
                likely[context] = 1 - likely[context];
            }
            state[context] = wasLikely ? row[1] : row[2];
        }
    }

    static final class Writing {
        final List<Integer> bytes = new ArrayList<>();
        private final Memory memory;
        private long a = 0x8000;
        private long c = 0;
        private int t = 12;

        Writing(Memory memory) {
            this.memory = memory;
        }

        void bit(int context, int bit) {
            long q = TABLE[memory.state[context]][0];
            if (bit == memory.likely[context]) {
                a -= q;
                if ((a & 0x8000) != 0) {
                    c += q;
                    return;
                }
                if (a < q) {
                    a = q;
                } else {
                    c += q;
                }
                memory.passed(context, true);
            } else {
                a -= q;
                if (a < q) {
                    c += q;
                } else {
                    a = q;
                }
                memory.passed(context, false);
            }
            do {
                a <<= 1;
                c <<= 1;
                t--;
                if (t == 0) {
                    byteOut();
                }
            } while ((a & 0x8000) == 0);
        }

        private void byteOut() {
            int at = bytes.size() - 1;
            int last = at < 0 ? 0 : bytes.get(at);
            if (last == 0xFF) {
                stuffed();
            } else if (c < 0x8000000L) {
                plain();
            } else {
                bytes.set(at, last + 1);
                c &= 0x7FFFFFFL;
                if (last + 1 == 0xFF) {
                    stuffed();
                } else {
                    plain();
                }
            }
        }

        private void stuffed() {
            bytes.add((int) (c >> 20));
            c &= 0xFFFFFL;
            t = 7;
        }

        private void plain() {
            bytes.add((int) (c >> 19));
            c &= 0x7FFFFL;
            t = 8;
        }

        List<Integer> end() {
            long above = c + a;
            c |= 0xFFFF;
            if (c >= above) {
                c -= 0x8000;
            }
            c <<= t;
            byteOut();
            c <<= t;
            byteOut();
            if (bytes.get(bytes.size() - 1) != 0xFF) {
                bytes.add(0xFF);
            }
            bytes.add(0xAC);
            return bytes;
        }
    }

    static final class Reading {
        private final List<Integer> bytes;
        private final Memory memory;
        private long a;
        private long c;
        private int t;
        int b = 0;

        Reading(List<Integer> bytes, Memory memory) {
            this.bytes = bytes;
            this.memory = memory;
            c = (long) at(0) << 16;
            byteIn();
            c <<= 7;
            t -= 7;
            a = 0x8000;
        }

        private int at(int i) {
            return i < bytes.size() ? bytes.get(i) : 0xFF;
        }

        private void byteIn() {
            if (at(b) == 0xFF) {
                if (at(b + 1) > 0x8F) {
                    c += 0xFF00;
                    t = 8;
                } else {
                    b++;
                    c += (long) at(b) << 9;
                    t = 7;
                }
            } else {
                b++;
                c += (long) at(b) << 8;
                t = 8;
            }
            c &= 0xFFFFFFFFL;
        }

        int bit(int context) {
            long q = TABLE[memory.state[context]][0];
            int likely = memory.likely[context];
            boolean wasLikely;
            a -= q;
            if ((c >> 16) < q) {
                wasLikely = a < q;
                a = q;
            } else {
                c -= q << 16;
                if ((a & 0x8000) != 0) {
                    return likely;
                }
                wasLikely = a >= q;
            }
            memory.passed(context, wasLikely);
            do {
                if (t == 0) {
                    byteIn();
                }
                a <<= 1;
                c = (c << 1) & 0xFFFFFFFFL;
                t--;
            } while ((a & 0x8000) == 0);
            return wasLikely ? likely : 1 - likely;
        }
    }

    private static final int[][] PICTURE_0 = {{-1, 0}, {1, -1}, {0, -1}};
    private static final int[][] REFERENCE_0 =
            {{1, 1}, {0, 1}, {-1, 1}, {1, 0}, {0, 0}, {-1, 0}, {1, -1}, {0, -1}};
    private static final int[][] PICTURE_1 = {{-1, 0}, {1, -1}, {0, -1}, {-1, -1}};
    private static final int[][] REFERENCE_1 = {{1, 1}, {0, 1}, {1, 0}, {0, 0}, {-1, 0}, {0, -1}};

    private int[][] picture = new int[8][8];
    private int[][] reference = null;
    private int[][] found = null;
    private int dx;
    private int dy;
    private int template = 0;
    private boolean typical = false;
    private boolean keep = false;
    private int[][] places = {{-1, -1}, {-1, -1}};
    private List<Integer> bytes = new ArrayList<>();
    private Memory encoding = new Memory();
    private Memory decoding = new Memory();
    private final int[] tally = new int[5];

    private static boolean in(int[][] grid, int x, int y) {
        return grid != null && y >= 0 && y < grid.length && x >= 0 && x < grid[0].length;
    }

    private static int pixel(int[][] grid, int x, int y) {
        return in(grid, x, y) ? grid[y][x] : 0;
    }

    private int referred(int x, int y) {
        return pixel(reference, x - dx, y - dy);
    }

    private void needReference() {
        if (reference == null) {
            throw new IllegalStateException();
        }
    }

    void shape(int width, int height, int template, boolean typical) {
        if (width < 1 || width > 40 || height < 1 || height > 40 || template < 0 || template > 1) {
            throw new IllegalArgumentException();
        }
        picture = new int[height][width];
        found = null;
        this.template = template;
        this.typical = typical;
        places = new int[][] {{-1, -1}, {-1, -1}};
        encoding = new Memory();
        decoding = new Memory();
    }

    private static boolean set(int[][] grid, int x, int y, boolean black) {
        if (!in(grid, x, y)) {
            throw new IndexOutOfBoundsException();
        }
        boolean was = grid[y][x] == 1;
        grid[y][x] = black ? 1 : 0;
        return was;
    }

    boolean put(int x, int y, boolean black) {
        return set(picture, x, y, black);
    }

    void reference(int width, int height) {
        if (width < 1 || width > 60 || height < 1 || height > 60) {
            throw new IllegalArgumentException();
        }
        reference = new int[height][width];
        dx = 0;
        dy = 0;
    }

    boolean refer(int x, int y, boolean black) {
        needReference();
        return set(reference, x, y, black);
    }

    void offset(int dx, int dy) {
        needReference();
        if (dx < -20 || dx > 20 || dy < -20 || dy > 20) {
            throw new IllegalArgumentException();
        }
        this.dx = dx;
        this.dy = dy;
    }

    void adaptive(int k, int p, int q) {
        boolean can = p >= -16 && p <= 15 && q >= -16 && q <= 15;
        if (k == 0) {
            can = can && (q < 0 || q == 0 && p < 0);
        }
        if (k < 0 || k > 1 || !can) {
            throw new IllegalArgumentException();
        }
        places[k] = new int[] {p, q};
    }

    void keep(boolean on) {
        keep = on;
    }

    private int contextIn(int[][] grid, int x, int y) {
        List<Integer> bits = new ArrayList<>();
        for (int[] d : template == 0 ? PICTURE_0 : PICTURE_1) {
            bits.add(pixel(grid, x + d[0], y + d[1]));
        }
        if (template == 0) {
            bits.add(pixel(grid, x + places[0][0], y + places[0][1]));
        }
        for (int[] d : template == 0 ? REFERENCE_0 : REFERENCE_1) {
            bits.add(referred(x + d[0], y + d[1]));
        }
        if (template == 0) {
            bits.add(referred(x + places[1][0], y + places[1][1]));
        }
        int context = 0;
        for (int i = bits.size() - 1; i >= 0; i--) {
            context = 2 * context + bits.get(i);
        }
        return context;
    }

    /** How many of the nine are black. */
    private int blackOfNine(int x, int y) {
        int black = 0;
        for (int i = 0; i < 9; i++) {
            black += referred(x + i % 3 - 1, y + i / 3 - 1);
        }
        return black;
    }

    private boolean agrees(int x, int y) {
        return blackOfNine(x, y) % 9 == 0;
    }

    int encode() {
        needReference();
        if (!keep) {
            encoding = new Memory();
        }
        Writing writing = new Writing(encoding);
        tally[1] = 0;
        tally[2] = 0;
        tally[3] = 0;
        boolean before = false;
        for (int y = 0; y < picture.length; y++) {
            boolean now = typical;
            for (int x = 0; x < picture[0].length; x++) {
                if (agrees(x, y) && picture[y][x] != blackOfNine(x, y) / 9) {
                    now = false;
                }
            }
            if (typical) {
                writing.bit(template == 0 ? 16 : 8, now == before ? 0 : 1);
                tally[3]++;
            }
            tally[2] += now ? 1 : 0;
            before = now;
            for (int x = 0; x < picture[0].length; x++) {
                if (now && agrees(x, y)) {
                    tally[1]++;
                } else {
                    writing.bit(contextIn(picture, x, y), picture[y][x]);
                    tally[3]++;
                }
            }
        }
        bytes = writing.end();
        return bytes.size();
    }

    int feed(int n, long more) {
        if (n < 1 || n > 8) {
            throw new IllegalArgumentException();
        }
        if (bytes.size() + n > 4096) {
            return -1;
        }
        for (int i = 0; i < n; i++) {
            bytes.add((int) (more & 255));
            more >>= 8;
        }
        return bytes.size();
    }

    int wipe() {
        int were = bytes.size();
        bytes = new ArrayList<>();
        return were;
    }

    int byteAt(int i) {
        return i >= 0 && i < bytes.size() ? bytes.get(i) : -1;
    }

    int decode() {
        needReference();
        if (!keep) {
            decoding = new Memory();
        }
        Reading reading = new Reading(bytes, decoding);
        int[][] grid = new int[picture.length][picture[0].length];
        tally[1] = 0;
        tally[2] = 0;
        tally[3] = 0;
        int black = 0;
        boolean now = false;
        for (int y = 0; y < grid.length; y++) {
            if (typical) {
                now ^= reading.bit(template == 0 ? 16 : 8) == 1;
                tally[3]++;
            }
            tally[2] += now ? 1 : 0;
            for (int x = 0; x < grid[0].length; x++) {
                if (now && agrees(x, y)) {
                    grid[y][x] = blackOfNine(x, y) / 9;
                    tally[1]++;
                } else {
                    grid[y][x] = reading.bit(contextIn(grid, x, y));
                    tally[3]++;
                }
                black += grid[y][x];
            }
        }
        tally[4] = reading.b;
        found = grid;
        return black;
    }

    int at(int x, int y) {
        return in(found, x, y) ? found[y][x] : -1;
    }

    boolean take() {
        if (found == null) {
            return false;
        }
        reference = new int[found.length][];
        for (int y = 0; y < found.length; y++) {
            reference[y] = found[y].clone();
        }
        dx = 0;
        dy = 0;
        return true;
    }

    int context(int x, int y) {
        needReference();
        if (!in(picture, x, y)) {
            throw new IndexOutOfBoundsException();
        }
        return contextIn(picture, x, y);
    }

    int told(int what) {
        if (what < 0 || what > 5) {
            throw new IllegalArgumentException();
        }
        if (what == 0) {
            return bytes.size();
        }
        if (what < 5) {
            return tally[what];
        }
        if (found == null) {
            return -1;
        }
        int differ = 0;
        for (int y = 0; y < found.length; y++) {
            for (int x = 0; x < found[0].length; x++) {
                differ += found[y][x] == picture[y][x] ? 0 : 1;
            }
        }
        return differ;
    }

    int state(int context, boolean ofDecoding) {
        if (context < 0 || context > 8191) {
            throw new IllegalArgumentException();
        }
        Memory memory = ofDecoding ? decoding : encoding;
        return 2 * memory.state[context] + memory.likely[context];
    }
}
