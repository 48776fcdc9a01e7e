/**
 * Each promise of the document by itself: ordinary inputs, the named edges, wrong inputs. No object
 * is used for more than 512 calls, since nothing is promised behind those.
 */
public final class PromiseTests {
    private static final int NONE = RefineRegions.NONE;
    private static final Checks CHECKS = new Checks();

    public static void main(String[] args) {
        aNewObject();
        shapeMakesAnotherPicture();
        shapeLeavesTheRest();
        shapeRefuses();
        putPaintsThePicture();
        referenceIsWhiteAndUnmoved();
        referPaintsTheReference();
        offsetMovesTheReference();
        adaptivePlacesHaveBounds();
        adaptivePlacesAreSeen();
        keepGoesOnWithStates();
        encodeMakesBytes();
        encodeDoesRowsTypically();
        feedAddsBytes();
        wipeAndByteAt();
        decodeReadsBack();
        decodeReadsAnyBytes();
        atTellsWhatWasRead();
        takeMakesAReference();
        contextOfTemplate0();
        contextOfTemplate1();
        toldTells();
        stateTells();
        CHECKS.end("PromiseTests");
    }

    private static RefineRegions withReference(int width, int height, int template, boolean typical) {
        RefineRegions x = new RefineRegions();
        x.shape(width, height, template, typical);
        x.reference(width, height);
        return x;
    }

    private static void blot(RefineRegions x, int left, int top, int right, int bottom) {
        for (int v = top; v <= bottom; v++) {
            for (int u = left; u <= right; u++) {
                x.put(u, v, true);
                x.refer(u, v, true);
            }
        }
    }

    private static void bytesAre(String what, RefineRegions x, int... due) {
        CHECKS.same(what + ": how many", x.told(0), due.length);
        for (int i = 0; i < due.length; i++) {
            CHECKS.same(what + ": byte " + i, x.byteAt(i), due[i]);
        }
        CHECKS.same(what + ": behind them", x.byteAt(due.length), NONE);
    }

    /** Promise 1. */
    private static void aNewObject() {
        RefineRegions x = new RefineRegions();
        CHECKS.same("NONE", NONE, -1);
        CHECKS.badState("new: encode", () -> x.encode());
        CHECKS.badState("new: decode", () -> x.decode());
        CHECKS.badState("new: context", () -> x.context(0, 0));
        CHECKS.same("new: take", x.take() ? 1 : 0, 0);
        CHECKS.badState("new: take made no reference", () -> x.encode());
        CHECKS.same("new: at", x.at(0, 0), NONE);
        CHECKS.same("new: byteAt", x.byteAt(0), NONE);
        for (int what = 0; what < 5; what++) {
            CHECKS.same("new: told " + what, x.told(what), 0);
        }
        CHECKS.same("new: told 5", x.told(5), NONE);
        CHECKS.same("new: state", x.state(0, false) + x.state(8191, true), 0);
        CHECKS.badIndex("new: 8 wide", () -> x.put(8, 0, true));
        CHECKS.badIndex("new: 8 high", () -> x.put(0, 8, true));
        for (int i = 0; i < 64; i++) {
            CHECKS.holds("new: white", !x.put(i % 8, i / 8, false));
        }
        x.reference(8, 8);
        x.refer(0, 0, true);
        CHECKS.same("new: template 0, adaptive place 1", x.context(1, 1), 1 << 12);
        x.refer(0, 0, false);
        CHECKS.same("new: encode", x.encode(), 3);
        bytesAre("new", x, 159, 255, 172);
        CHECKS.same("new: not typical", x.told(3), 64);
    }

    /** Promise 2. */
    private static void shapeMakesAnotherPicture() {
        RefineRegions x = new RefineRegions();
        x.reference(60, 60);
        x.put(0, 0, true);
        x.adaptive(0, -2, 0);
        x.adaptive(1, 3, 3);
        x.encode();
        x.decode();
        x.shape(40, 1, 0, true);
        CHECKS.holds("shape: white", !x.put(0, 0, false));
        CHECKS.fine("shape: 40 wide", () -> x.put(39, 0, false));
        CHECKS.badIndex("shape: not wider", () -> x.put(40, 0, false));
        CHECKS.badIndex("shape: not higher", () -> x.put(0, 1, false));
        CHECKS.same("shape: what was read is gone", x.at(0, 0), NONE);
        CHECKS.same("shape: no difference is left", x.told(5), NONE);
        CHECKS.holds("shape: nothing to take", !x.take());
        for (int context = 0; context < 8192; context += 64) {
            CHECKS.same("shape: states", x.state(context, false) + x.state(context, true), 0);
        }
        x.put(3, 0, true);
        CHECKS.same("shape: adaptive place 0", x.context(5, 0), 0);
        x.refer(6, 3, true);
        CHECKS.same("shape: adaptive place 1", x.context(3, 0), 0);
        x.encode();
        CHECKS.same("shape: typical", x.told(2), 0);
        CHECKS.same("shape: its row's bit", x.told(3), 41);
        x.shape(1, 40, 1, false);
        CHECKS.fine("shape: 40 high", () -> x.put(0, 39, true));
        x.encode();
        CHECKS.same("shape: plain", x.told(3), 40);
    }

    /** Promise 2: what it does not name stays. */
    private static void shapeLeavesTheRest() {
        RefineRegions x = withReference(6, 6, 0, true);
        blot(x, 1, 1, 4, 4);
        x.offset(1, 0);
        x.keep(true);
        x.encode();
        x.decode();
        int count = x.told(0);
        int first = x.byteAt(0);
        int skipped = x.told(1);
        int rows = x.told(2);
        int bits = x.told(3);
        int place = x.told(4);
        CHECKS.holds("shape: something to leave", skipped > 0 && rows > 0 && bits > 0 && place > 0);
        x.shape(6, 6, 1, false);
        CHECKS.same("shape leaves the bytes", x.told(0), count);
        CHECKS.same("shape leaves byte 0", x.byteAt(0), first);
        CHECKS.same("shape leaves skipped", x.told(1), skipped);
        CHECKS.same("shape leaves rows", x.told(2), rows);
        CHECKS.same("shape leaves bits", x.told(3), bits);
        CHECKS.same("shape leaves the place", x.told(4), place);
        CHECKS.same("shape leaves reference and offset", x.context(1, 1), (1 << 4) + (1 << 6));
        x.encode();
        int once = x.state(0, false);
        x.encode();
        CHECKS.holds("shape leaves keep", x.state(0, false) > once);
    }

    /** Promise 2: wrong inputs, which change nothing. */
    private static void shapeRefuses() {
        RefineRegions x = withReference(5, 5, 0, false);
        x.put(4, 4, true);
        x.adaptive(0, -3, 0);
        x.encode();
        x.decode();
        int[][] wrong = {{0, 1, 0}, {41, 1, 0}, {1, 0, 0}, {1, 41, 0}, {1, 1, -1}, {1, 1, 2},
            {-1, 5, 0}, {Integer.MAX_VALUE, 1, 0}, {1, Integer.MIN_VALUE, 1}};
        for (int[] w : wrong) {
            CHECKS.badArgument("shape refuses", () -> x.shape(w[0], w[1], w[2], true));
        }
        CHECKS.same("shape refused: what was read", x.at(4, 4), 1);
        CHECKS.holds("shape refused: picture", x.put(4, 4, true));
        CHECKS.holds("shape refused: states", x.state(0, false) > 0);
        x.put(0, 4, true);
        CHECKS.same("shape refused: adaptive place", x.context(3, 4), 8);
        x.encode();
        CHECKS.same("shape refused: typical", x.told(3), 25);
    }

    /** Promise 3. */
    private static void putPaintsThePicture() {
        RefineRegions x = new RefineRegions();
        x.shape(40, 40, 0, false);
        CHECKS.holds("put: was white", !x.put(39, 39, true));
        CHECKS.holds("put: was black", x.put(39, 39, true));
        CHECKS.holds("put: black again", x.put(39, 39, false));
        CHECKS.holds("put: white again", !x.put(39, 39, false));
        x.shape(3, 2, 0, false);
        x.put(2, 1, true);
        int[][] wrong = {{-1, 0}, {0, -1}, {3, 0}, {0, 2}, {Integer.MAX_VALUE, 0}, {0, Integer.MIN_VALUE}};
        for (int[] w : wrong) {
            CHECKS.badIndex("put refuses", () -> x.put(w[0], w[1], true));
        }
        for (int i = 0; i < 6; i++) {
            CHECKS.same("put: each pixel by itself", x.put(i % 3, i / 3, false) ? 1 : 0, i == 5 ? 1 : 0);
        }
    }

    /** Promise 4. */
    private static void referenceIsWhiteAndUnmoved() {
        RefineRegions x = new RefineRegions();
        CHECKS.badArgument("reference refuses", () -> x.reference(61, 60));
        CHECKS.badState("reference refused: none is there", () -> x.refer(0, 0, true));
        x.reference(60, 60);
        x.refer(59, 59, true);
        x.refer(3, 3, true);
        x.offset(2, 2);
        int[][] wrong = {{0, 1}, {1, 0}, {61, 1}, {1, 61}, {-1, -1}, {Integer.MIN_VALUE, 1}};
        for (int[] w : wrong) {
            CHECKS.badArgument("reference refuses", () -> x.reference(w[0], w[1]));
        }
        CHECKS.same("reference refused: as it was", x.context(5, 5), 1 << 8);
        x.reference(60, 60);
        for (int i = 0; i < 60; i++) {
            CHECKS.holds("reference: white", !x.refer(i, i, false));
        }
        x.refer(5, 5, true);
        CHECKS.same("reference: not moved", x.context(5, 5), 1 << 8);
        x.reference(1, 60);
        CHECKS.badIndex("reference: 1 wide", () -> x.refer(1, 0, true));
        CHECKS.fine("reference: 60 high", () -> x.refer(0, 59, true));
        x.put(2, 2, true);
        x.encode();
        x.decode();
        x.reference(2, 2);
        CHECKS.same("reference: what was read stays", x.at(2, 2), 1);
    }

    /** Promise 5. */
    private static void referPaintsTheReference() {
        RefineRegions x = new RefineRegions();
        CHECKS.badState("refer without a reference", () -> x.refer(0, 0, true));
        CHECKS.badState("refer: the state goes first", () -> x.refer(-1, 0, true));
        x.reference(7, 9);
        CHECKS.holds("refer: was white", !x.refer(6, 8, true));
        CHECKS.holds("refer: was black", x.refer(6, 8, false));
        CHECKS.holds("refer: white again", !x.refer(6, 8, false));
        int[][] wrong = {{7, 0}, {0, 9}, {-1, 0}, {0, -1}, {Integer.MAX_VALUE, 1}, {1, Integer.MAX_VALUE}};
        for (int[] w : wrong) {
            CHECKS.badIndex("refer refuses", () -> x.refer(w[0], w[1], true));
        }
        for (int i = 0; i < 63; i++) {
            CHECKS.holds("refer refused: nothing changed", !x.refer(i % 7, i / 7, false));
        }
    }

    /** Promise 6. */
    private static void offsetMovesTheReference() {
        RefineRegions x = new RefineRegions();
        CHECKS.badState("offset without a reference", () -> x.offset(0, 0));
        CHECKS.badState("offset: the state goes first", () -> x.offset(21, 0));
        x.shape(40, 40, 0, false);
        x.reference(60, 60);
        x.refer(19, 19, true);
        int[][] right = {{0, 0}, {20, -19}, {-19, 20}, {-19, -19}, {19, 19}, {3, -7}};
        for (int[] r : right) {
            x.offset(r[0], r[1]);
            CHECKS.same("offset " + r[0] + ", " + r[1], x.context(19 + r[0], 19 + r[1]), 1 << 8);
        }
        int[][] wrong = {{21, 0}, {0, 21}, {-21, 0}, {0, -21}, {Integer.MIN_VALUE, 0}};
        for (int[] w : wrong) {
            CHECKS.badArgument("offset refuses", () -> x.offset(w[0], w[1]));
        }
        CHECKS.same("offset refused: as it was", x.context(22, 12), 1 << 8);
        x.refer(59, 59, true);
        x.offset(-20, -20);
        CHECKS.same("offset: as far as it goes", x.context(39, 39), 1 << 8);
    }

    /** Promise 7: where the places can be. */
    private static void adaptivePlacesHaveBounds() {
        for (int q = -18; q <= 17; q++) {
            RefineRegions x = new RefineRegions();
            for (int p = -18; p <= 17; p++) {
                int left = p;
                int down = q;
                boolean near = p >= -16 && p <= 15 && q >= -16 && q <= 15;
                boolean known = q < 0 || q == 0 && p < 0;
                CHECKS.same("adaptive 0 at " + p + ", " + q,
                        Checks.outcome(() -> x.adaptive(0, left, down)),
                        near && known ? "0" : "throws.IllegalArgumentException");
                CHECKS.same("adaptive 1 at " + p + ", " + q,
                        Checks.outcome(() -> x.adaptive(1, left, down)),
                        near ? "0" : "throws.IllegalArgumentException");
            }
        }
        RefineRegions x = new RefineRegions();
        CHECKS.badArgument("adaptive -1", () -> x.adaptive(-1, -1, -1));
        CHECKS.badArgument("adaptive 2", () -> x.adaptive(2, -1, -1));
        CHECKS.badArgument("adaptive far off", () -> x.adaptive(0, Integer.MIN_VALUE, -1));
        CHECKS.badArgument("adaptive far up", () -> x.adaptive(0, -1, Integer.MIN_VALUE));
        x.shape(4, 4, 1, false);
        CHECKS.fine("adaptive with template 1", () -> x.adaptive(0, -1, 0));
    }

    /** Promise 7: that they are looked at. */
    private static void adaptivePlacesAreSeen() {
        RefineRegions x = withReference(40, 40, 0, false);
        x.put(4, 4, true);
        x.refer(4, 4, true);
        x.adaptive(0, -16, -3);
        CHECKS.same("adaptive place 0", x.context(20, 7), 8);
        CHECKS.badArgument("adaptive refuses", () -> x.adaptive(0, 0, 0));
        CHECKS.same("adaptive refused: as it was", x.context(20, 7), 8);
        x.adaptive(1, 15, -16);
        CHECKS.badArgument("adaptive refuses", () -> x.adaptive(1, 16, 0));
        x.put(4, 4, false);
        x.refer(4, 4, false);
        x.refer(24, 4, true);
        CHECKS.same("adaptive place 1", x.context(9, 20), 1 << 12);
        x.adaptive(1, 0, 0);
        CHECKS.same("adaptive place 1 in the middle", x.context(24, 4), (1 << 12) + (1 << 8));
        x.encode();
        CHECKS.same("adaptive places, read back", x.decode(), 0);
    }

    /** Promise 8. */
    private static void keepGoesOnWithStates() {
        RefineRegions x = withReference(8, 8, 0, false);
        x.encode();
        int fresh = x.state(0, false);
        x.encode();
        CHECKS.same("keep is off at first", x.state(0, false), fresh);
        x.keep(true);
        CHECKS.same("keep by itself changes no state", x.state(0, false), fresh);
        x.encode();
        int further = x.state(0, false);
        CHECKS.holds("keep: states go on", further > fresh);
        CHECKS.same("keep: decoding has its own", x.state(0, true), 0);
        x.shape(8, 8, 0, false);
        for (int i = 0; i < 4; i++) {
            x.put(3, i, true);
            x.encode();
            CHECKS.same("keep: decoding follows", x.decode(), i + 1);
            CHECKS.same("keep: as written", x.told(5), 0);
            CHECKS.same("keep: states alike", x.state(0, true), x.state(0, false));
        }
        x.keep(false);
        x.shape(8, 8, 0, false);
        x.encode();
        x.encode();
        CHECKS.same("keep off: encode begins anew", x.state(0, false), fresh);
        x.decode();
        x.decode();
        CHECKS.same("keep off: decode begins anew", x.state(0, true), fresh);
    }

    /** Promise 9: bytes that were worked out apart from the class. */
    private static void encodeMakesBytes() {
        RefineRegions x = new RefineRegions();
        x.feed(8, 1L);
        CHECKS.badState("encode without a reference", () -> x.encode());
        CHECKS.same("encode refused: bytes stay", x.told(0), 8);
        x.reference(1, 1);
        CHECKS.same("encode: in place of others", x.encode(), 3);
        bytesAre("encode", x, 159, 255, 172);
        x.shape(1, 1, 0, true);
        CHECKS.same("encode: one pixel", x.encode(), 4);
        bytesAre("encode: one white", x, 255, 127, 255, 172);
        x.put(0, 0, true);
        CHECKS.same("encode: one black pixel", x.encode(), 3);
        bytesAre("encode: one black", x, 63, 255, 172);
    }

    /** Promise 9: typical rows. */
    private static void encodeDoesRowsTypically() {
        RefineRegions x = withReference(10, 10, 1, true);
        blot(x, 2, 2, 7, 7);
        x.encode();
        CHECKS.same("typical: all rows", x.told(2), 10);
        // A 6 by 6 square: of the 64 places that touch it, only the inner 16 have nine that agree.
        CHECKS.same("typical: skipped", x.told(1), 100 - 64 + 16);
        CHECKS.same("typical: bits", x.told(3), 10 + 64 - 16);
        x.put(4, 4, false);
        x.put(0, 9, true);
        x.encode();
        CHECKS.same("typical: two rows are plain", x.told(2), 8);
        x.put(4, 4, true);
        x.put(2, 2, false);
        x.put(0, 9, false);
        x.encode();
        CHECKS.same("typical: where nine differ a pixel is free", x.told(2), 10);
        CHECKS.same("typical: read back", x.decode(), 35);
        RefineRegions y = withReference(2, 1, 0, true);
        y.refer(0, 0, true);
        y.put(0, 0, true);
        y.encode();
        CHECKS.same("typical: a row where no nine agree", y.told(2), 1);
        CHECKS.same("typical: it skips nothing", y.told(1), 0);
        RefineRegions z = withReference(4, 4, 0, false);
        z.encode();
        CHECKS.same("not typical: no row", z.told(2) + z.told(1), 0);
        CHECKS.same("not typical: no row's bit", z.told(3), 16);
    }

    /** Promise 10. */
    private static void feedAddsBytes() {
        RefineRegions x = new RefineRegions();
        CHECKS.same("feed 3", x.feed(3, 0x7F04FF0201L), 3);
        bytesAre("feed: lowest first", x, 1, 2, 255);
        CHECKS.same("feed 8", x.feed(8, 0x8001020304050680L), 11);
        bytesAre("feed: more", x, 1, 2, 255, 0x80, 6, 5, 4, 3, 2, 1, 0x80);
        int[] wrong = {0, 9, -1, Integer.MIN_VALUE, Integer.MAX_VALUE};
        for (int n : wrong) {
            CHECKS.badArgument("feed refuses", () -> x.feed(n, 0L));
        }
        CHECKS.same("feed refused: as it was", x.told(0), 11);
        feedFillsUp();
    }

    /** 512 calls feed just 4096 bytes, so the first ones are those of a picture that codes badly. */
    private static void feedFillsUp() {
        RefineRegions x = withReference(40, 40, 0, false);
        x.feed(4, 516018099L);
        x.decode();
        x.take();
        int count = x.encode();
        CHECKS.same("feed: a picture that codes badly", count, 102);
        while (count < 4094) {
            count += 8;
            CHECKS.same("feed: until it is full", x.feed(8, -1L), count);
        }
        CHECKS.same("feed: one too many", x.feed(3, 0L), NONE);
        CHECKS.same("feed: none came", x.told(0), 4094);
        CHECKS.same("feed: up to the last", x.feed(2, 77L << 8), 4096);
        CHECKS.same("feed: it is there", x.byteAt(4095), 77);
        CHECKS.same("feed: one more", x.feed(1, 0L), NONE);
        CHECKS.badArgument("feed: full, and a wrong n", () -> x.feed(9, 0L));
        CHECKS.same("feed: full, in the 512th call", x.wipe(), 4096);
    }

    /** Promises 11 and 12. */
    private static void wipeAndByteAt() {
        RefineRegions x = new RefineRegions();
        CHECKS.same("wipe: none", x.wipe(), 0);
        x.feed(2, 0xFF80L);
        CHECKS.same("byteAt: 0", x.byteAt(0), 0x80);
        CHECKS.same("byteAt: 1", x.byteAt(1), 0xFF);
        CHECKS.same("byteAt: 2", x.byteAt(2), NONE);
        CHECKS.same("byteAt: -1", x.byteAt(-1), NONE);
        CHECKS.same("byteAt: most", x.byteAt(Integer.MAX_VALUE), NONE);
        CHECKS.same("byteAt: least", x.byteAt(Integer.MIN_VALUE), NONE);
        CHECKS.same("wipe: two", x.wipe(), 2);
        CHECKS.same("wiped", x.byteAt(0), NONE);
        CHECKS.same("wiped: told", x.told(0), 0);
        CHECKS.same("wiped: again", x.wipe(), 0);
    }

    /** Promise 13: what was written. */
    private static void decodeReadsBack() {
        for (int i = 0; i < 4; i++) {
            RefineRegions x = withReference(20, 12, i % 2, i > 1);
            blot(x, 4, 3, 11, 9);
            x.put(12, 3, true);
            x.refer(4, 3, false);
            x.offset(i - 1, 1);
            int bytes = x.encode();
            int bits = x.told(3);
            int skipped = x.told(1);
            int rows = x.told(2);
            CHECKS.same("decode: black", x.decode(), 8 * 7 + 1);
            CHECKS.same("decode: no difference", x.told(5), 0);
            CHECKS.same("decode: bytes stay", x.told(0), bytes);
            CHECKS.same("decode: bits", x.told(3), bits);
            CHECKS.same("decode: skipped", x.told(1), skipped);
            CHECKS.same("decode: rows", x.told(2), rows);
            for (int v = 0; v < 12; v++) {
                int context = x.context(12, v);
                CHECKS.same("decode: state " + context, x.state(context, true), x.state(context, false));
            }
        }
        CHECKS.badState("decode without a reference", () -> new RefineRegions().decode());
    }

    /** Promise 13: what nobody wrote. */
    private static void decodeReadsAnyBytes() {
        RefineRegions x = withReference(8, 8, 0, false);
        x.adaptive(0, -1, 0);
        CHECKS.same("decode: no bytes are 255s", x.decode() > 0 ? 1 : 0, 1);
        int black = x.decode();
        CHECKS.same("decode: no bytes, B", x.told(4), 0);
        x.feed(2, 0xFFFFL);
        CHECKS.same("decode: 255s are as no bytes", x.decode(), black);
        CHECKS.same("decode: B stays before a mark", x.told(4), 0);
        x.wipe();
        x.feed(1, 0x12L);
        x.decode();
        CHECKS.same("decode: B goes behind the last byte", x.told(4), 1);
        x.wipe();
        x.feed(3, 0xFF8FFFL);
        x.decode();
        CHECKS.holds("decode: 143 is no mark", x.told(4) > 0);
        x.wipe();
        x.feed(3, 0x0090FFL);
        x.decode();
        CHECKS.same("decode: 144 is a mark", x.told(4), 0);
    }

    /** Promise 14. */
    private static void atTellsWhatWasRead() {
        RefineRegions x = withReference(5, 3, 1, false);
        CHECKS.same("at: nothing was read", x.at(0, 0), NONE);
        x.put(4, 2, true);
        x.encode();
        CHECKS.same("at: encode reads nothing", x.at(4, 2), NONE);
        x.decode();
        CHECKS.same("at: black", x.at(4, 2), 1);
        CHECKS.same("at: white", x.at(3, 2), 0);
        x.put(4, 2, false);
        CHECKS.same("at: not the picture", x.at(4, 2), 1);
        int[][] wrong = {{5, 0}, {0, 3}, {-1, 0}, {0, -1}, {Integer.MAX_VALUE, 0}, {0, Integer.MIN_VALUE}};
        for (int[] w : wrong) {
            CHECKS.same("at: none such", x.at(w[0], w[1]), NONE);
        }
    }

    /** Promise 15. */
    private static void takeMakesAReference() {
        RefineRegions x = withReference(6, 4, 0, false);
        x.offset(2, 2);
        CHECKS.holds("take: nothing was read", !x.take());
        x.refer(1, 1, true);
        CHECKS.same("take: nothing changed", x.context(3, 3), 1 << 8);
        x.put(5, 3, true);
        x.encode();
        x.decode();
        CHECKS.holds("take: something was read", x.take());
        CHECKS.badIndex("take: the width", () -> x.refer(6, 0, true));
        CHECKS.badIndex("take: the height", () -> x.refer(0, 4, true));
        CHECKS.holds("take: the pixels", x.refer(5, 3, true));
        CHECKS.holds("take: the old pixels are gone", !x.refer(1, 1, false));
        CHECKS.same("take: the offset", x.context(5, 3), 1 << 8);
        x.refer(5, 3, false);
        CHECKS.same("take: a copy", x.at(5, 3), 1);
        CHECKS.holds("take: again", x.take());
        x.wipe();
        x.decode();
        CHECKS.holds("take: the next reading leaves the reference", x.refer(5, 3, true));
        x.shape(6, 4, 0, false);
        CHECKS.holds("take: not since shape", !x.take());
        CHECKS.holds("take: the reference stays", x.refer(5, 3, true));
    }

    /** Promise 16: each bit of template 0 by itself. */
    private static void contextOfTemplate0() {
        RefineRegions x = new RefineRegions();
        CHECKS.badState("context without a reference", () -> x.context(0, 0));
        CHECKS.badState("context: the state goes first", () -> x.context(-1, 0));
        x.reference(8, 8);
        int[][] wrong = {{8, 0}, {0, 8}, {-1, 0}, {0, -1}, {Integer.MIN_VALUE, 0}, {0, Integer.MAX_VALUE}};
        for (int[] w : wrong) {
            CHECKS.badIndex("context refuses", () -> x.context(w[0], w[1]));
        }
        int[][] ofPicture = {{-1, 0}, {1, -1}, {0, -1}, {-1, -1}};
        int[][] ofReference =
                {{1, 1}, {0, 1}, {-1, 1}, {1, 0}, {0, 0}, {-1, 0}, {1, -1}, {0, -1}, {-1, -1}};
        eachBitOfAContext(x, ofPicture, ofReference);
    }

    /** Promise 16: each bit of template 1 by itself. */
    private static void contextOfTemplate1() {
        RefineRegions x = withReference(8, 8, 1, false);
        int[][] ofPicture = {{-1, 0}, {1, -1}, {0, -1}, {-1, -1}};
        int[][] ofReference = {{1, 1}, {0, 1}, {1, 0}, {0, 0}, {-1, 0}, {0, -1}};
        eachBitOfAContext(x, ofPicture, ofReference);
    }

    private static void eachBitOfAContext(RefineRegions x, int[][] ofPicture, int[][] ofReference) {
        for (int down = -2; down <= 2; down++) {
            for (int right = -2; right <= 2; right++) {
                x.put(3 + right, 3 + down, true);
                CHECKS.same("context: picture at " + right + ", " + down,
                        x.context(3, 3), bitOf(ofPicture, right, down, 0));
                x.put(3 + right, 3 + down, false);
                x.refer(3 + right, 3 + down, true);
                CHECKS.same("context: reference at " + right + ", " + down,
                        x.context(3, 3), bitOf(ofReference, right, down, ofPicture.length));
                x.refer(3 + right, 3 + down, false);
            }
        }
        x.put(7, 0, true);
        CHECKS.same("context: left of the picture is white", x.context(0, 1), 0);
        CHECKS.same("context: of a corner", x.context(0, 0), 0);
        CHECKS.same("context: of the right border", x.context(7, 1), 4);
        x.put(7, 0, false);
    }

    private static int bitOf(int[][] places, int right, int down, int shift) {
        for (int i = 0; i < places.length; i++) {
            if (places[i][0] == right && places[i][1] == down) {
                return 1 << (i + shift);
            }
        }
        return 0;
    }

    /** Promise 17. */
    private static void toldTells() {
        RefineRegions x = withReference(4, 4, 0, true);
        int[] wrong = {-1, 6, Integer.MIN_VALUE, Integer.MAX_VALUE};
        for (int what : wrong) {
            CHECKS.badArgument("told refuses", () -> x.told(what));
        }
        x.encode();
        CHECKS.same("told: bytes", x.told(0), x.wipe());
        CHECKS.same("told: skipped", x.told(1), 16);
        CHECKS.same("told: rows", x.told(2), 4);
        CHECKS.same("told: bits", x.told(3), 4);
        CHECKS.same("told: B before any decode", x.told(4), 0);
        CHECKS.same("told: nothing was read", x.told(5), NONE);
        x.encode();
        x.decode();
        int place = x.told(4);
        CHECKS.holds("told: B", place > 0);
        CHECKS.same("told: as decode did", x.told(1), 16);
        x.put(0, 0, true);
        x.put(3, 3, true);
        CHECKS.same("told: differences", x.told(5), 2);
        x.encode();
        CHECKS.same("told: as the last encode did", x.told(2), 2);
        CHECKS.same("told: B is the last decode's", x.told(4), place);
        CHECKS.same("told: bits of plain rows too", x.told(3), 4 + 8);
        x.take();
        CHECKS.same("told: take leaves them", x.told(3), 4 + 8);
    }

    /** Promise 18. */
    private static void stateTells() {
        RefineRegions x = withReference(1, 1, 0, false);
        int[] wrong = {-1, 8192, Integer.MIN_VALUE, Integer.MAX_VALUE};
        for (int context : wrong) {
            CHECKS.badArgument("state refuses", () -> x.state(context, false));
            CHECKS.badArgument("state refuses", () -> x.state(context, true));
        }
        x.encode();
        CHECKS.same("state: a likely bit in state 0", x.state(0, false), 2);
        x.put(0, 0, true);
        x.encode();
        CHECKS.same("state: another bit in state 0 turns", x.state(0, false), 3);
        CHECKS.same("state: of decode", x.state(0, true), 0);
        x.decode();
        CHECKS.same("state: as decode left it", x.state(0, true), 3);
        x.put(0, 0, false);
        x.encode();
        CHECKS.same("state: each its own", x.state(0, true) - x.state(0, false), 1);
        x.refer(0, 0, true);
        x.adaptive(1, 0, 0);
        x.encode();
        CHECKS.same("state: of the context that was used", x.state((1 << 12) + (1 << 8), false), 2);
        CHECKS.same("state: of no other", x.state(0, false), 0);
        x.shape(1, 1, 0, true);
        x.encode();
        CHECKS.holds("state: a row's bit in 16", x.state(16, false) > 0);
        x.shape(1, 1, 1, true);
        x.encode();
        CHECKS.holds("state: a row's bit in 8", x.state(8, false) > 0);
        CHECKS.same("state: none in 16 then", x.state(16, false), 0);
    }
}
