import java.util.Arrays;

/**
 * Pictures of black and white that refine others: each pixel is coded by those around it that are
 * known, and by the nine around its place in a reference, with an adaptive coder of bits.
 */
public final class RefineRegions {
    public static final int NONE = -1;

    private static final int MOST_SIDE = 40;
    private static final int MOST_REFERENCE_SIDE = 60;
    private static final int MOST_OFFSET = 20;
    private static final int MOST_FED_AT_ONCE = 8;
    private static final int FIRST_SIDE = 8;

    private final Bitmap picture = new Bitmap(MOST_SIDE);
    private final Bitmap found = new Bitmap(MOST_SIDE);
    private final Surroundings around = new Surroundings();
    private final ByteRow stream = new ByteRow();
    private final Writer writer = new Writer(stream);
    private final Reader reader = new Reader(stream);

    private boolean typical = false;
    private boolean keeping = false;
    private boolean referenceThere = false;
    private boolean somethingFound = false;

    private int skippedPixels = 0;
    private int typicalRows = 0;
    private int codedBits = 0;

    public RefineRegions() {
        picture.whiten(FIRST_SIDE, FIRST_SIDE);
    }

    public void shape(int width, int height, int template, boolean typical)
            throws IllegalArgumentException {
        if (!isWithin(width, 1, MOST_SIDE) || !isWithin(height, 1, MOST_SIDE)) {
            throw new IllegalArgumentException("width and height are 1 to 40");
        }
        if (!isWithin(template, 0, 1)) {
            throw new IllegalArgumentException("the template is 0 or 1");
        }
        picture.whiten(width, height);
        around.begin(template);
        this.typical = typical;
        writer.states.forget();
        reader.states.forget();
        somethingFound = false;
    }

    public boolean put(int x, int y, boolean black) throws IndexOutOfBoundsException {
        if (!picture.holds(x, y)) {
            throw new IndexOutOfBoundsException("no such pixel in the picture");
        }
        boolean was = picture.pixel(x, y) == 1;
        picture.paint(x, y, black ? 1 : 0);
        return was;
    }

    public void reference(int width, int height) throws IllegalArgumentException {
        if (!isWithin(width, 1, MOST_REFERENCE_SIDE) || !isWithin(height, 1, MOST_REFERENCE_SIDE)) {
            throw new IllegalArgumentException("width and height are 1 to 60");
        }
        around.reference.whiten(width, height);
        around.move(0, 0);
        referenceThere = true;
    }

    public boolean refer(int x, int y, boolean black)
            throws IllegalStateException, IndexOutOfBoundsException {
        requireReference();
        if (!around.reference.holds(x, y)) {
            throw new IndexOutOfBoundsException("no such pixel in the reference");
        }
        boolean was = around.reference.pixel(x, y) == 1;
        around.reference.paint(x, y, black ? 1 : 0);
        return was;
    }

    public void offset(int dx, int dy) throws IllegalStateException, IllegalArgumentException {
        requireReference();
        if (!isWithin(dx, -MOST_OFFSET, MOST_OFFSET) || !isWithin(dy, -MOST_OFFSET, MOST_OFFSET)) {
            throw new IllegalArgumentException("an offset is -20 to 20");
        }
        around.move(dx, dy);
    }

    public void adaptive(int k, int p, int q) throws IllegalArgumentException {
        if (!isWithin(k, 0, 1)) {
            throw new IllegalArgumentException("an adaptive place is 0 or 1");
        }
        if (k == 0 ? !canBePlace0(p, q) : !canBePlace1(p, q)) {
            throw new IllegalArgumentException("the adaptive place cannot be there");
        }
        if (k == 0) {
            around.setPlace0(p, q);
        } else {
            around.setPlace1(p, q);
        }
    }

    public void keep(boolean on) {
        keeping = on;
    }

    public int encode() throws IllegalStateException {
        requireReference();
        if (!keeping) {
            writer.states.forget();
        }
        writer.begin();
        codePicture(writer, picture);
        writer.finish();
        return stream.count();
    }

    public int feed(int n, long bytes) throws IllegalArgumentException {
        if (!isWithin(n, 1, MOST_FED_AT_ONCE)) {
            throw new IllegalArgumentException("1 to 8 bytes come at once");
        }
        if (!stream.hasRoomFor(n)) {
            return NONE;
        }
        for (int i = 0; i < n; i++) {
            stream.append((int) (bytes >>> (8 * i)) & 255);
        }
        return stream.count();
    }

    public int wipe() {
        int were = stream.count();
        stream.clear();
        return were;
    }

    public int byteAt(int i) {
        return stream.valueOr(i, NONE);
    }

    public int decode() throws IllegalStateException {
        requireReference();
        if (!keeping) {
            reader.states.forget();
        }
        found.whiten(picture.width, picture.height);
        reader.begin();
        codePicture(reader, found);
        somethingFound = true;
        return found.countBlack();
    }

    public int at(int x, int y) {
        return somethingFound && found.holds(x, y) ? found.pixel(x, y) : NONE;
    }

    public boolean take() {
        if (somethingFound) {
            around.reference.copyFrom(found);
            around.move(0, 0);
            referenceThere = true;
        }
        return somethingFound;
    }

    public int context(int x, int y) throws IllegalStateException, IndexOutOfBoundsException {
        requireReference();
        if (!picture.holds(x, y)) {
            throw new IndexOutOfBoundsException("no such pixel in the picture");
        }
        return around.contextOf(picture, x, y);
    }

    public int told(int what) throws IllegalArgumentException {
        switch (what) {
            case 0:
                return stream.count();
            case 1:
                return skippedPixels;
            case 2:
                return typicalRows;
            case 3:
                return codedBits;
            case 4:
                return reader.place;
            case 5:
                return somethingFound ? picture.countDifferences(found) : NONE;
            default:
                throw new IllegalArgumentException("what is told is 0 to 5");
        }
    }

    public int state(int context, boolean decoding) throws IllegalArgumentException {
        if (!isWithin(context, 0, States.CONTEXTS - 1)) {
            throw new IllegalArgumentException("a context is 0 to 8191");
        }
        return decoding ? reader.states.packedOf(context) : writer.states.packedOf(context);
    }

    private static boolean isWithin(int value, int least, int most) {
        return value >= least && value <= most;
    }

    /** Place 0 lies in the picture itself, so it may only be where pixels are known already. */
    private static boolean canBePlace0(int p, int q) {
        if (q == 0) {
            return isWithin(p, -16, -1);
        }
        return isWithin(q, -16, -1) && isWithin(p, -16, 15);
    }

    private static boolean canBePlace1(int p, int q) {
        return isWithin(p, -16, 15) && isWithin(q, -16, 15);
    }

    private void requireReference() {
        if (!referenceThere) {
            throw new IllegalStateException("there is no reference");
        }
    }

    /**
     * Serves writing and reading alike, so that the two can never come apart: a writer answers the
     * bit it was given, and painting it changes nothing; a reader answers the bit that it read.
     */
    private void codePicture(BitCoder coder, Bitmap target) {
        skippedPixels = 0;
        typicalRows = 0;
        codedBits = 0;
        boolean rowTypical = false;
        for (int y = 0; y < target.height; y++) {
            if (typical) {
                int turn = around.rowAgrees(target, y) != rowTypical ? 1 : 0;
                if (coder.pass(around.rowContext(), turn) == 1) {
                    rowTypical = !rowTypical;
                }
                codedBits++;
            }
            if (rowTypical) {
                typicalRows++;
            }
            codeRow(coder, target, y, rowTypical);
        }
    }

    private void codeRow(BitCoder coder, Bitmap target, int y, boolean rowTypical) {
        for (int x = 0; x < target.width; x++) {
            int agreed = rowTypical ? around.agreedNine(x, y) : NONE;
            if (agreed != NONE) {
                target.paint(x, y, agreed);
                skippedPixels++;
            } else {
                int context = around.contextOf(target, x, y);
                target.paint(x, y, coder.pass(context, target.pixel(x, y)));
                codedBits++;
            }
        }
    }

    /** Pixels in a room made once for the largest size, so that no call makes new rows. */
    private static final class Bitmap {
        private final int side;
        private final int[] cells;
        private int width = 0;
        private int height = 0;

        private Bitmap(int side) {
            this.side = side;
            this.cells = new int[side * side];
        }

        private void whiten(int width, int height) {
            this.width = Math.min(width, side);
            this.height = Math.min(height, side);
            Arrays.fill(cells, 0);
        }

        private boolean holds(int x, int y) {
            return x >= 0 && x < width && y >= 0 && y < height;
        }

        /** Looks for itself instead of asking holds(), since the deepest chains of calls end here. */
        private int pixel(int x, int y) {
            return x >= 0 && x < width && y >= 0 && y < height ? cells[y * side + x] : 0;
        }

        private void paint(int x, int y, int bit) {
            if (holds(x, y)) {
                cells[y * side + x] = bit;
            }
        }

        private void copyFrom(Bitmap other) {
            whiten(other.width, other.height);
            for (int y = 0; y < height; y++) {
                for (int x = 0; x < width; x++) {
                    paint(x, y, other.pixel(x, y));
                }
            }
        }

        private int countBlack() {
            int black = 0;
            for (int y = 0; y < height; y++) {
                for (int x = 0; x < width; x++) {
                    black += pixel(x, y);
                }
            }
            return black;
        }

        private int countDifferences(Bitmap other) {
            int different = 0;
            for (int y = 0; y < height; y++) {
                for (int x = 0; x < width; x++) {
                    different += pixel(x, y) ^ other.pixel(x, y);
                }
            }
            return different;
        }
    }

    /** What a pixel is coded by: the template, the adaptive places, the reference and its offset. */
    private static final class Surroundings {
        private final Bitmap reference = new Bitmap(MOST_REFERENCE_SIDE);
        private int dx = 0;
        private int dy = 0;
        private int template = 0;
        private int p0 = -1;
        private int q0 = -1;
        private int p1 = -1;
        private int q1 = -1;

        private void begin(int template) {
            this.template = template;
            setPlace0(-1, -1);
            setPlace1(-1, -1);
        }

        private void setPlace0(int p, int q) {
            p0 = p;
            q0 = q;
        }

        private void setPlace1(int p, int q) {
            p1 = p;
            q1 = q;
        }

        private void move(int dx, int dy) {
            this.dx = dx;
            this.dy = dy;
        }

        private int rowContext() {
            return template == 0 ? 16 : 8;
        }

        private int referred(int x, int y) {
            return reference.pixel(x - dx, y - dy);
        }

        private int contextOf(Bitmap known, int x, int y) {
            int both = known.pixel(x - 1, y)
                    | known.pixel(x + 1, y - 1) << 1
                    | known.pixel(x, y - 1) << 2;
            return both | (template == 0 ? restOfTemplate0(known, x, y) : restOfTemplate1(known, x, y));
        }

        private int restOfTemplate0(Bitmap known, int x, int y) {
            return known.pixel(x + p0, y + q0) << 3
                    | referred(x + 1, y + 1) << 4
                    | referred(x, y + 1) << 5
                    | referred(x - 1, y + 1) << 6
                    | referred(x + 1, y) << 7
                    | referred(x, y) << 8
                    | referred(x - 1, y) << 9
                    | referred(x + 1, y - 1) << 10
                    | referred(x, y - 1) << 11
                    | referred(x + p1, y + q1) << 12;
        }

        private int restOfTemplate1(Bitmap known, int x, int y) {
            return known.pixel(x - 1, y - 1) << 3
                    | referred(x + 1, y + 1) << 4
                    | referred(x, y + 1) << 5
                    | referred(x + 1, y) << 6
                    | referred(x, y) << 7
                    | referred(x - 1, y) << 8
                    | referred(x, y - 1) << 9;
        }

        /** What the nine reference pixels about a place all are, or NONE when they differ. */
        private int agreedNine(int x, int y) {
            int middle = referred(x, y);
            for (int down = -1; down <= 1; down++) {
                for (int right = -1; right <= 1; right++) {
                    if (referred(x + right, y + down) != middle) {
                        return NONE;
                    }
                }
            }
            return middle;
        }

        private boolean rowAgrees(Bitmap target, int y) {
            for (int x = 0; x < target.width; x++) {
                int agreed = agreedNine(x, y);
                if (agreed != NONE && agreed != target.pixel(x, y)) {
                    return false;
                }
            }
            return true;
        }
    }

    private static final class ByteRow {
        private static final int MOST = 4096;

        private final int[] values = new int[MOST];
        private int size = 0;

        private int count() {
            return size;
        }

        private void clear() {
            size = 0;
        }

        private boolean hasRoomFor(int more) {
            return more <= MOST - size;
        }

        /** Writing never fills the row: 1640 bits of at most 15 shifts each make under 3600 bytes. */
        private void append(int value) {
            if (size < MOST) {
                values[size] = value;
                size++;
            }
        }

        private int valueOr(int i, int otherwise) {
            return i >= 0 && i < size ? values[i] : otherwise;
        }

        private int last() {
            return valueOr(size - 1, 0);
        }

        private void raiseLast() {
            if (size > 0) {
                values[size - 1]++;
            }
        }
    }

    /** The state and likely bit of each context, packed as twice the one and the other. */
    private static final class States {
        private static final int CONTEXTS = 8192;
        private static final int COLUMNS = 4;
        private static final int AFTER_LIKELY = 1;
        private static final int AFTER_OTHER = 2;
        private static final int TURNS = 3;

        private static final int[] TABLE = {
            22017, 1, 1, 1,
            13313, 2, 6, 0,
            6145, 3, 9, 0,
            2753, 4, 12, 0,
            1313, 5, 29, 0,
            545, 38, 33, 0,
            22017, 7, 6, 1,
            21505, 8, 14, 0,
            18433, 9, 14, 0,
            14337, 10, 14, 0,
            12289, 11, 17, 0,
            9217, 12, 18, 0,
            7169, 13, 20, 0,
            5633, 29, 21, 0,
            22017, 15, 14, 1,
            21505, 16, 14, 0,
            20737, 17, 15, 0,
            18433, 18, 16, 0,
            14337, 19, 17, 0,
            13313, 20, 18, 0,
            12289, 21, 19, 0,
            10241, 22, 19, 0,
            9217, 23, 20, 0,
            8705, 24, 21, 0,
            7169, 25, 22, 0,
            6145, 26, 23, 0,
            5633, 27, 24, 0,
            5121, 28, 25, 0,
            4609, 29, 26, 0,
            4353, 30, 27, 0,
            2753, 31, 28, 0,
            2497, 32, 29, 0,
            2209, 33, 30, 0,
            1313, 34, 31, 0,
            1089, 35, 32, 0,
            673, 36, 33, 0,
            545, 37, 34, 0,
            321, 38, 35, 0,
            273, 39, 36, 0,
            133, 40, 37, 0,
            73, 41, 38, 0,
            37, 42, 39, 0,
            21, 43, 40, 0,
            9, 44, 41, 0,
            5, 45, 42, 0,
            1, 45, 43, 0,
            22017, 46, 46, 0
        };

        private final int[] packed = new int[CONTEXTS];

        private void forget() {
            Arrays.fill(packed, 0);
        }

        private int packedOf(int context) {
            return context >= 0 && context < packed.length ? packed[context] : 0;
        }

        private int likelyOf(int context) {
            return packedOf(context) & 1;
        }

        private int shareOf(int context) {
            return entry(packedOf(context) >> 1, 0);
        }

        private void advance(int context, boolean wasLikely) {
            if (context < 0 || context >= packed.length) {
                return;
            }
            int state = packed[context] >> 1;
            int likely = packed[context] & 1;
            if (wasLikely) {
                packed[context] = 2 * entry(state, AFTER_LIKELY) + likely;
            } else {
                packed[context] = 2 * entry(state, AFTER_OTHER) + (likely ^ entry(state, TURNS));
            }
        }

        private static int entry(int state, int column) {
            int i = state * COLUMNS + column;
            return i >= 0 && i < TABLE.length ? TABLE[i] : 0;
        }
    }

    private abstract static class BitCoder {
        static final int HALF = 32768;
        /** The interval is never below 1, so it is back at HALF after 15 doublings. */
        static final int MOST_DOUBLINGS = 15;

        /** Takes the bit through the code in its context, and answers the one that the code holds. */
        abstract int pass(int context, int bit);
    }

    /** Its interval, low and left are the document's A, C and T of WRITING. */
    private static final class Writer extends BitCoder {
        private static final int CARRY = 1 << 27;

        private final States states = new States();
        private final ByteRow out;
        private int interval = HALF;
        private int low = 0;
        private int left = 12;

        private Writer(ByteRow out) {
            this.out = out;
        }

        private void begin() {
            out.clear();
            interval = HALF;
            low = 0;
            left = 12;
        }

        @Override
        int pass(int context, int bit) {
            int share = states.shareOf(context);
            boolean likely = bit == states.likelyOf(context);
            interval -= share;
            if (likely && interval >= HALF) {
                low += share;
                return bit;
            }
            // The likely bit has the upper part, unless that has become the smaller one.
            if (likely == (interval < share)) {
                interval = share;
            } else {
                low += share;
            }
            states.advance(context, likely);
            renew();
            return bit;
        }

        private void renew() {
            for (int i = 0; i < MOST_DOUBLINGS; i++) {
                interval *= 2;
                low *= 2;
                left--;
                if (left == 0) {
                    sendByte();
                }
                if (interval >= HALF) {
                    return;
                }
            }
        }

        private void sendByte() {
            if (out.last() != 255 && low >= CARRY) {
                out.raiseLast();
                low -= CARRY;
            }
            // Behind a 255 a byte carries 7 bits alone, so that a carry never goes through it.
            int width = out.last() == 255 ? 7 : 8;
            int kept = 27 - width;
            out.append(low >> kept);
            low &= (1 << kept) - 1;
            left = width;
        }

        private void finish() {
            int above = low + interval;
            low |= 65535;
            if (low >= above) {
                low -= HALF;
            }
            low <<= left;
            sendByte();
            low <<= left;
            sendByte();
            if (out.last() != 255) {
                out.append(255);
            }
            out.append(172);
        }
    }

    /** Its interval, code, left and place are the document's A, C, T and B of READING. */
    private static final class Reader extends BitCoder {
        private static final long LOWEST_32_BITS = 4294967295L;

        private final States states = new States();
        private final ByteRow in;
        private int interval = HALF;
        private long code = 0;
        private int left = 0;
        private int place = 0;

        private Reader(ByteRow in) {
            this.in = in;
        }

        private void begin() {
            place = 0;
            code = (long) in.valueOr(0, 255) << 16;
            fetchByte();
            code = code << 7 & LOWEST_32_BITS;
            left -= 7;
            interval = HALF;
        }

        /** The given bit is not looked at: reading finds out what it was. */
        @Override
        int pass(int context, int bit) {
            int share = states.shareOf(context);
            int likelyBit = states.likelyOf(context);
            long lowerPart = (long) share << 16;
            boolean likely;
            interval -= share;
            if (code < lowerPart) {
                likely = interval < share;
                interval = share;
            } else {
                code -= lowerPart;
                if (interval >= HALF) {
                    return likelyBit;
                }
                likely = interval >= share;
            }
            states.advance(context, likely);
            renew();
            return likely ? likelyBit : 1 - likelyBit;
        }

        private void renew() {
            for (int i = 0; i < MOST_DOUBLINGS; i++) {
                if (left == 0) {
                    fetchByte();
                }
                interval *= 2;
                code = code << 1 & LOWEST_32_BITS;
                left--;
                if (interval >= HALF) {
                    return;
                }
            }
        }

        private void fetchByte() {
            int here = in.valueOr(place, 255);
            int next = in.valueOr(place + 1, 255);
            if (here == 255 && next > 143) {
                code += 65280;
                left = 8;
            } else {
                place++;
                left = here == 255 ? 7 : 8;
                code += (long) next << (here == 255 ? 9 : 8);
            }
            code &= LOWEST_32_BITS;
        }
    }
}
