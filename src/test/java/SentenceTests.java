import java.util.function.Consumer;

/** The sentences of the promises, each by itself; TermsTests and CoderTests have those of 'Terms'. */
public final class SentenceTests {
    private static final int NONE = -1;
    private static final int LEAST = Integer.MIN_VALUE;
    private static final int MOST = Integer.MAX_VALUE;
    private static final String BAD_ARGUMENT = "IllegalArgumentException";
    private static final String BAD_INDEX = "IndexOutOfBoundsException";
    private static final Checks CHECKS = new Checks();
    private static final Refusals REFUSALS = new Refusals(CHECKS);

    public static void main(String[] args) {
        all(Sentences.running(CHECKS));
        CHECKS.end("SentenceTests");
    }

    static void all(Sentences sentences) {
        aNewObject(sentences);
        pictures(sentences);
        references(sentences);
        adaptiveAndKeep(sentences);
        bytes(sentences);
        reading(sentences);
        telling(sentences);
    }

    private static void aNewObject(Sentences sentences) {
        sentences.test("The public face", "public static final int NONE = -1;",
                () -> CHECKS.same("NONE", RefineRegions.NONE, NONE));
        String p1 = "Promise 1";
        sentences.test(p1, "The picture is 8 by 8, white", SentenceTests::newPicture);
        sentences.test(p1, "template 0, not typical", SentenceTests::newCoding);
        sentences.test(p1, "no reference", SentenceTests::newReference);
        sentences.test(p1, "no bytes", SentenceTests::newBytes);
        sentences.test(p1, "nothing was read", SentenceTests::newReading);
    }

    private static void pictures(Sentences sentences) {
        String p2 = "Promise 2";
        sentences.test(p2, "Another picture, white", SentenceTests::anotherPicture);
        sentences.test(p2, "how it is coded", SentenceTests::howItIsCoded);
        sentences.test(p2, "adaptive places and states are as at first", SentenceTests::shapeForgets);
        sentences.test(p2, "IllegalArgumentException: width, height are not 1 to 40",
                SentenceTests::shapeRefusesSizes);
        sentences.test(p2, "or template not 0 or 1", SentenceTests::shapeRefusesTemplates);
        String p3 = "Promise 3";
        sentences.test(p3, "A pixel of the picture", SentenceTests::putPaints);
        sentences.test(p3, "Answers whether it was black", SentenceTests::putAnswers);
        sentences.test(p3, "IndexOutOfBoundsException: there is none such", SentenceTests::putRefuses);
    }

    private static void references(Sentences sentences) {
        String p4 = "Promise 4";
        sentences.test(p4, "A white reference; offset 0, 0", SentenceTests::whiteReference);
        sentences.test(p4, "IllegalArgumentException: width, height are not 1 to 60",
                SentenceTests::referenceRefuses);
        String p5 = "Promise 5";
        sentences.test(p5, "A pixel of the reference", SentenceTests::referPaints);
        sentences.test(p5, "Answers whether it was black", SentenceTests::referAnswers);
        sentences.test(p5, "IllegalStateException: there is no reference", SentenceTests::referNeedsOne);
        sentences.test(p5, "IndexOutOfBoundsException: there is no such pixel", SentenceTests::referRefuses);
        String p6 = "Promise 6";
        sentences.test(p6, "The offset", SentenceTests::offsetHolds);
        sentences.test(p6, "IllegalStateException: there is no reference", SentenceTests::offsetNeedsOne);
        sentences.test(p6, "IllegalArgumentException: it is not -20 to 20", SentenceTests::offsetRefuses);
    }

    private static void adaptiveAndKeep(Sentences sentences) {
        String p7 = "Promise 7";
        sentences.test(p7, "Adaptive place k", SentenceTests::adaptivePlaces);
        sentences.test(p7, "IllegalArgumentException: there is none such (k is 0 or 1)",
                SentenceTests::adaptiveRefusesOthers);
        sentences.test(p7, "or it cannot be there", SentenceTests::adaptiveRefusesPlaces);
        String p8 = "Promise 8";
        sentences.test(p8, "Whether encode() and decode() go on with the states that the last one left (each has"
                + " its own)", SentenceTests::keepGoesOn);
        sentences.test(p8, "or begin with those at first (so at first)", SentenceTests::keepIsOffAtFirst);
    }

    private static void bytes(Sentences sentences) {
        String p9 = "Promise 9";
        sentences.test(p9, "The picture becomes bytes", SentenceTests::encodeWrites);
        sentences.test(p9, "in place of those there were. Answers how many", SentenceTests::encodeReplaces);
        sentences.test(p9, "IllegalStateException: there is no reference", SentenceTests::encodeNeedsOne);
        String p10 = "Promise 10";
        sentences.test(p10, "n more bytes, the lowest one first. Answers how many there are",
                SentenceTests::feedAdds);
        sentences.test(p10, "NONE when there would be more than 4096: none comes then",
                SentenceTests::feedUpTo4096);
        sentences.test(p10, "IllegalArgumentException: n is not 1 to 8", SentenceTests::feedRefuses);
        sentences.test("Promise 11", "The bytes go. Answers how many they were", SentenceTests::wipeAnswers);
        sentences.test("Promise 12", "Byte i; NONE when there is none", SentenceTests::byteAtAnswers);
    }

    private static void reading(Sentences sentences) {
        String p13 = "Promise 13";
        sentences.test(p13, "The bytes are read", SentenceTests::decodeReadsTheBytes);
        sentences.test(p13, "as a picture of the same width and height, with the same template, reference and so on",
                SentenceTests::decodeReadsTheSame);
        sentences.test(p13, "Answers how many pixels are black", SentenceTests::decodeAnswers);
        sentences.test(p13, "IllegalStateException: there is no reference", SentenceTests::decodeNeedsOne);
        String p14 = "Promise 14";
        sentences.test(p14, "A pixel of what was read, 0 or 1", SentenceTests::atAnswers);
        sentences.test(p14, "NONE when there is none such", SentenceTests::atOutside);
        String p15 = "Promise 15";
        sentences.test(p15, "What was read becomes the reference, with offset 0, 0", SentenceTests::takeTakes);
        sentences.test(p15, "Answers whether something was read (since the last shape())",
                SentenceTests::takeAnswers);
    }

    private static void telling(Sentences sentences) {
        String p16 = "Promise 16";
        sentences.test(p16, "The context of a pixel of the picture", SentenceTests::contextAtBorders);
        sentences.test(p16, "IllegalStateException: there is no reference", SentenceTests::contextNeedsOne);
        sentences.test(p16, "IndexOutOfBoundsException: there is no such pixel", SentenceTests::contextRefuses);
        String p17 = "Promise 17";
        sentences.test(p17, "Bytes that there are (what = 0)", SentenceTests::toldBytes);
        sentences.test(p17, "skipped pixels (1), rows done typically (2), bits coded (3; each row's bit of a"
                + " TYPICAL coding, too) of the last encode() or decode()", SentenceTests::toldOfTheLast);
        sentences.test(p17, "B (4) of the last decode()", SentenceTests::toldPlace);
        sentences.test(p17, "all these 0 before any", SentenceTests::toldAtFirst);
        sentences.test(p17, "shape() leaves them", SentenceTests::shapeLeavesWhatIsTold);
        sentences.test(p17, "pixels in which picture and what was read differ (5; NONE when nothing was read)",
                SentenceTests::toldDifferences);
        sentences.test(p17, "IllegalArgumentException: another what", SentenceTests::toldRefuses);
        String p18 = "Promise 18";
        sentences.test(p18, "Twice the state of a context, and its likely bit, of encode() (or decode())",
                SentenceTests::stateAnswers);
        sentences.test(p18, "as the last one left it", SentenceTests::stateStays);
        sentences.test(p18, "IllegalArgumentException: there is no such context (they are 0 to 8191)",
                SentenceTests::stateRefuses);
    }

    private static void refusedAlways(String what, String exception, Consumer<RefineRegions> call) {
        REFUSALS.always(what, exception, call);
    }

    /** The settings have pictures of 8 by 8, 5 by 4 and 4 by 5, and references up to 6 by 5. */
    private static final int[][] NO_PIXELS = {{-1, 0}, {0, -1}, {8, 0}, {0, 8}, {-1, -1}, {8, 8}, {40, 0},
        {0, 40}, {60, 0}, {0, 60}, {LEAST, 0}, {0, LEAST}, {MOST, 0}, {0, MOST}, {MOST, MOST}};

    private static void newPicture() {
        RefineRegions x = new RefineRegions();
        for (int i = 0; i < 64; i++) {
            CHECKS.holds("white", !x.put(i % 8, i / 8, true));
        }
        CHECKS.badIndex("8 wide", () -> x.put(8, 0, true));
        CHECKS.badIndex("8 wide", () -> x.put(8, 7, true));
        CHECKS.badIndex("8 high", () -> x.put(0, 8, true));
        CHECKS.badIndex("8 high", () -> x.put(7, 8, true));
        x.reference(1, 1);
        x.encode();
        CHECKS.same("64 pixels", x.told(3), 64);
        CHECKS.same("64 of them black", x.decode(), 64);
    }

    private static void newCoding() {
        RefineRegions x = new RefineRegions();
        x.reference(8, 8);
        x.refer(3, 3, true);
        CHECKS.same("place 1 is of template 0 only", x.context(4, 4), 1 << 12);
        CHECKS.same("the middle of template 0", x.context(3, 3), 1 << 8);
        x.encode();
        CHECKS.same("not typical: bits", x.told(3), 64);
        CHECKS.same("not typical: rows", x.told(2), 0);
        CHECKS.same("not typical: skipped", x.told(1), 0);
    }

    private static void newReference() {
        RefineRegions x = new RefineRegions();
        CHECKS.badState("encode", () -> x.encode());
        CHECKS.badState("decode", () -> x.decode());
        CHECKS.badState("refer", () -> x.refer(0, 0, true));
        CHECKS.badState("offset", () -> x.offset(0, 0));
        CHECKS.badState("context", () -> x.context(0, 0));
        x.shape(2, 2, 1, true);
        CHECKS.badState("shape brings none", () -> x.encode());
        x.take();
        CHECKS.badState("take brings none where nothing was read", () -> x.encode());
        x.reference(1, 1);
        CHECKS.fine("now there is one", () -> x.encode());
    }

    private static void newBytes() {
        RefineRegions x = new RefineRegions();
        CHECKS.same("told", x.told(0), 0);
        CHECKS.same("byte 0", x.byteAt(0), NONE);
        CHECKS.same("wipe", x.wipe(), 0);
        CHECKS.same("the first one fed", x.feed(1, 7L), 1);
        CHECKS.same("is byte 0", x.byteAt(0), 7);
    }

    private static void newReading() {
        RefineRegions x = new RefineRegions();
        CHECKS.same("at", x.at(0, 0), NONE);
        CHECKS.same("at the last pixel", x.at(7, 7), NONE);
        CHECKS.same("told", x.told(5), NONE);
        CHECKS.holds("take", !x.take());
        x.reference(8, 8);
        x.encode();
        CHECKS.same("encode reads nothing", x.at(0, 0), NONE);
        CHECKS.same("encode reads nothing to tell of", x.told(5), NONE);
        CHECKS.holds("encode reads nothing to take", !x.take());
    }

    private static void anotherPicture() {
        RefineRegions x = new RefineRegions();
        Scene.draw(x, "########", "########", "########", "########", "########", "########");
        int[][] sizes = {{3, 2}, {8, 8}, {1, 40}, {40, 1}};
        for (int[] size : sizes) {
            x.shape(size[0], size[1], 0, false);
            for (int i = 0; i < size[0] * size[1]; i++) {
                CHECKS.holds("white after shape", !x.put(i % size[0], i / size[0], false));
            }
            CHECKS.badIndex("its width", () -> x.put(size[0], 0, true));
            CHECKS.badIndex("its height", () -> x.put(0, size[1], true));
        }
        x.shape(2, 2, 0, false);
        x.put(1, 1, true);
        x.shape(2, 2, 0, false);
        CHECKS.holds("white, too, when the size stays", !x.put(1, 1, true));
    }

    private static void howItIsCoded() {
        RefineRegions x = new RefineRegions();
        x.reference(4, 4);
        x.refer(1, 1, true);
        for (int i = 0; i < 4; i++) {
            boolean typical = i % 2 == 1;
            x.shape(4, 4, i / 2, typical);
            CHECKS.same("template " + i / 2, x.context(1, 1), i / 2 == 0 ? 1 << 8 : 1 << 7);
            x.encode();
            CHECKS.same("rows, typical: " + typical, x.told(2), typical ? 4 : 0);
            CHECKS.same("skipped, typical: " + typical, x.told(1), typical ? 7 : 0);
            CHECKS.same("bits, typical: " + typical, x.told(3), typical ? 4 + 9 : 16);
        }
    }

    private static void shapeForgets() {
        RefineRegions x = Scene.of(0, false, Scene.rows("#.#.", ".##.", "...."), Scene.rows("..#.", "####"));
        x.adaptive(0, -2, 0);
        x.adaptive(1, 0, 0);
        x.keep(true);
        x.encode();
        x.decode();
        int[] used = new int[12];
        for (int i = 0; i < 12; i++) {
            used[i] = x.context(i % 4, i / 4);
            CHECKS.holds("a state of encode", x.state(used[i], false) > 0);
            CHECKS.holds("a state of decode", x.state(used[i], true) > 0);
        }
        x.shape(4, 3, 0, false);
        for (int context : used) {
            CHECKS.same("state of encode after shape", x.state(context, false), 0);
            CHECKS.same("state of decode after shape", x.state(context, true), 0);
        }
        x.reference(4, 3);
        x.put(1, 1, true);
        CHECKS.same("place 0 is no more at -2, 0", x.context(3, 1), 0);
        CHECKS.same("place 0 is at -1, -1", x.context(2, 2), 1 << 3);
        x.put(1, 1, false);
        x.refer(1, 1, true);
        CHECKS.same("place 1 is no more at 0, 0", x.context(1, 1), 1 << 8);
        CHECKS.same("place 1 is at -1, -1", x.context(2, 2), 1 << 12);
    }

    private static void shapeRefusesSizes() {
        for (int right : new int[] {1, 40}) {
            CHECKS.fine("width " + right, () -> new RefineRegions().shape(right, 7, 0, false));
            CHECKS.fine("height " + right, () -> new RefineRegions().shape(7, right, 1, true));
        }
        for (int wrong : new int[] {0, 41, -1, 60, LEAST, MOST}) {
            refusedAlways("width " + wrong, BAD_ARGUMENT, x -> x.shape(wrong, 7, 1, false));
            refusedAlways("height " + wrong, BAD_ARGUMENT, x -> x.shape(7, wrong, 1, false));
            refusedAlways("both " + wrong, BAD_ARGUMENT, x -> x.shape(wrong, wrong, 0, true));
        }
    }

    private static void shapeRefusesTemplates() {
        for (int right : new int[] {0, 1}) {
            CHECKS.fine("template " + right, () -> new RefineRegions().shape(7, 7, right, false));
        }
        for (int wrong : new int[] {-1, 2, 3, LEAST, MOST}) {
            refusedAlways("template " + wrong, BAD_ARGUMENT, x -> x.shape(7, 7, wrong, false));
            refusedAlways("template " + wrong + " and width 0", BAD_ARGUMENT, x -> x.shape(0, 7, wrong, true));
        }
    }

    private static void putPaints() {
        RefineRegions x = Scene.white(5, 4, 1, false);
        for (int i = 0; i < 20; i++) {
            x.put(i % 5, i / 5, true);
            x.encode();
            CHECKS.same("one black pixel", x.decode(), 1);
            CHECKS.same("this one", x.at(i % 5, i / 5), 1);
            x.put(i % 5, i / 5, false);
            CHECKS.same("it is white again", x.told(5), 1);
        }
        CHECKS.same("the reference has none of it", x.refer(0, 0, false) ? 1 : 0, 0);
    }

    private static void putAnswers() {
        RefineRegions x = new RefineRegions();
        int[][] corners = {{0, 0}, {7, 0}, {0, 7}, {7, 7}};
        for (int[] c : corners) {
            CHECKS.holds("white at first", !x.put(c[0], c[1], true));
            CHECKS.holds("black then", x.put(c[0], c[1], true));
            CHECKS.holds("black still", x.put(c[0], c[1], false));
            CHECKS.holds("white again", !x.put(c[0], c[1], false));
        }
    }

    private static void putRefuses() {
        for (int[] p : NO_PIXELS) {
            refusedAlways("put " + p[0] + ", " + p[1], BAD_INDEX, x -> x.put(p[0], p[1], true));
            refusedAlways("put white " + p[0] + ", " + p[1], BAD_INDEX, x -> x.put(p[0], p[1], false));
        }
        REFUSALS.check("right of 5 by 4", BAD_INDEX, x -> x.put(5, 0, true), Refusals.Setting.TEMPLATE_0);
        REFUSALS.check("below 5 by 4", BAD_INDEX, x -> x.put(0, 4, true), Refusals.Setting.TEMPLATE_0);
        REFUSALS.check("right of 4 by 5", BAD_INDEX, x -> x.put(4, 4, true), Refusals.Setting.TEMPLATE_1);
        REFUSALS.check("below 4 by 5", BAD_INDEX, x -> x.put(3, 5, true), Refusals.Setting.TEMPLATE_1);
        RefineRegions x = Scene.white(5, 4, 0, false);
        CHECKS.fine("the last pixel of 5 by 4", () -> x.put(4, 3, true));
    }

    private static void whiteReference() {
        RefineRegions x = new RefineRegions();
        for (int i = 0; i < 2; i++) {
            x.reference(9, 10);
            for (int k = 0; k < 90; k++) {
                CHECKS.holds("white", !x.refer(k % 9, k / 9, true));
            }
        }
        x.offset(3, -4);
        x.reference(9, 10);
        x.refer(5, 6, true);
        CHECKS.same("offset 0, 0", x.context(5, 6), 1 << 8);
        CHECKS.badIndex("its width", () -> x.refer(9, 0, true));
        CHECKS.badIndex("its height", () -> x.refer(0, 10, true));
    }

    private static void referenceRefuses() {
        for (int right : new int[] {1, 60}) {
            CHECKS.fine("width " + right, () -> new RefineRegions().reference(right, 7));
            CHECKS.fine("height " + right, () -> new RefineRegions().reference(7, right));
        }
        for (int wrong : new int[] {0, 61, -1, LEAST, MOST}) {
            refusedAlways("width " + wrong, BAD_ARGUMENT, x -> x.reference(wrong, 7));
            refusedAlways("height " + wrong, BAD_ARGUMENT, x -> x.reference(7, wrong));
            refusedAlways("both " + wrong, BAD_ARGUMENT, x -> x.reference(wrong, wrong));
        }
    }

    private static void referPaints() {
        RefineRegions x = new RefineRegions();
        x.shape(6, 5, 0, false);
        x.reference(6, 5);
        for (int i = 0; i < 30; i++) {
            x.refer(i % 6, i / 6, true);
            CHECKS.same("this one is black", x.context(i % 6, i / 6), 1 << 8);
            x.refer(i % 6, i / 6, false);
            CHECKS.same("it is white again", x.context(i % 6, i / 6), 0);
        }
        x.refer(0, 0, true);
        CHECKS.same("the picture has none of it", x.put(0, 0, false) ? 1 : 0, 0);
    }

    private static void referAnswers() {
        RefineRegions x = new RefineRegions();
        x.reference(60, 60);
        int[][] corners = {{0, 0}, {59, 0}, {0, 59}, {59, 59}};
        for (int[] c : corners) {
            CHECKS.holds("white at first", !x.refer(c[0], c[1], true));
            CHECKS.holds("black then", x.refer(c[0], c[1], true));
            CHECKS.holds("black still", x.refer(c[0], c[1], false));
            CHECKS.holds("white again", !x.refer(c[0], c[1], false));
        }
        x.refer(2, 2, true);
        x.offset(1, 1);
        CHECKS.holds("its place is the reference's own, wherever that lies", x.refer(2, 2, true));
    }

    private static void referNeedsOne() {
        REFUSALS.withoutReference("refer", x -> x.refer(0, 0, true));
        REFUSALS.withoutReference("refer white", x -> x.refer(0, 0, false));
        RefineRegions x = new RefineRegions();
        x.reference(1, 1);
        CHECKS.fine("with a reference", () -> x.refer(0, 0, true));
    }

    private static void referRefuses() {
        for (int[] p : NO_PIXELS) {
            REFUSALS.withReference("refer " + p[0] + ", " + p[1], BAD_INDEX, x -> x.refer(p[0], p[1], true));
        }
        REFUSALS.check("right of 6 by 5", BAD_INDEX, x -> x.refer(6, 4, true), Refusals.Setting.TEMPLATE_0);
        REFUSALS.check("below 6 by 5", BAD_INDEX, x -> x.refer(5, 5, true), Refusals.Setting.TEMPLATE_0);
        REFUSALS.check("right of 4 by 5", BAD_INDEX, x -> x.refer(4, 0, true), Refusals.Setting.TEMPLATE_1);
        REFUSALS.check("below 4 by 5", BAD_INDEX, x -> x.refer(0, 5, true), Refusals.Setting.TEMPLATE_1);
    }

    private static void offsetHolds() {
        RefineRegions x = Scene.of(0, false, Scene.rows("...", "...", "..."), Scene.rows("#"));
        x.offset(1, 2);
        CHECKS.same("there it is", x.context(1, 2), 1 << 8);
        x.offset(2, 1);
        CHECKS.same("the last one holds", x.context(2, 1), 1 << 8);
        CHECKS.same("they do not add up", x.context(1, 2), 1 << 10);
        x.shape(3, 3, 0, false);
        CHECKS.same("shape leaves it", x.context(2, 1), 1 << 8);
    }

    private static void offsetNeedsOne() {
        REFUSALS.withoutReference("offset", x -> x.offset(1, 1));
        REFUSALS.withoutReference("offset 0, 0", x -> x.offset(0, 0));
    }

    private static void offsetRefuses() {
        RefineRegions x = Scene.white(1, 1, 0, false);
        for (int right : new int[] {-20, 20}) {
            CHECKS.fine("offset " + right, () -> x.offset(right, right));
        }
        for (int wrong : new int[] {-21, 21, LEAST, MOST}) {
            REFUSALS.withReference("dx " + wrong, BAD_ARGUMENT, y -> y.offset(wrong, 3));
            REFUSALS.withReference("dy " + wrong, BAD_ARGUMENT, y -> y.offset(3, wrong));
            REFUSALS.withReference("both " + wrong, BAD_ARGUMENT, y -> y.offset(wrong, wrong));
        }
    }

    private static void adaptivePlaces() {
        RefineRegions x = Scene.of(0, false, Scene.rows("....", "....", "...."), Scene.rows("....", "....", "...."));
        x.adaptive(0, -3, 0);
        x.put(0, 2, true);
        CHECKS.same("place 0", x.context(3, 2), 1 << 3);
        x.adaptive(1, -3, 0);
        CHECKS.same("place 1 is another", x.context(3, 2), 1 << 3);
        x.refer(0, 2, true);
        CHECKS.same("both", x.context(3, 2), (1 << 3) + (1 << 12));
        x.adaptive(0, -1, -1);
        CHECKS.same("place 0 is back, place 1 stays", x.context(3, 2), 1 << 12);
        x.shape(4, 3, 1, false);
        CHECKS.fine("with template 1, too", () -> x.adaptive(1, -3, 0));
        CHECKS.same("where it isn't looked at", x.context(3, 2), 0);
    }

    private static void adaptiveRefusesOthers() {
        CHECKS.fine("place 0", () -> new RefineRegions().adaptive(0, -2, -2));
        CHECKS.fine("place 1", () -> new RefineRegions().adaptive(1, -2, -2));
        for (int wrong : new int[] {-1, 2, LEAST, MOST}) {
            refusedAlways("place " + wrong, BAD_ARGUMENT, x -> x.adaptive(wrong, -2, -2));
            refusedAlways("place " + wrong + ", too far", BAD_ARGUMENT, x -> x.adaptive(wrong, 99, 99));
        }
    }

    private static void adaptiveRefusesPlaces() {
        int[][] wrong0 = {{0, 0}, {-1, 1}, {-17, 0}, {-17, -1}, {16, -1}, {-1, -17}, {LEAST, -1}, {MOST, -1},
            {-1, LEAST}, {-1, MOST}, {LEAST, 0}, {MOST, 0}};
        for (int[] w : wrong0) {
            refusedAlways("place 0 at " + w[0] + ", " + w[1], BAD_ARGUMENT, x -> x.adaptive(0, w[0], w[1]));
        }
        int[][] wrong1 = {{-17, 0}, {16, 0}, {0, -17}, {0, 16}, {LEAST, 0}, {MOST, 0}, {0, LEAST}, {0, MOST}};
        for (int[] w : wrong1) {
            refusedAlways("place 1 at " + w[0] + ", " + w[1], BAD_ARGUMENT, x -> x.adaptive(1, w[0], w[1]));
        }
        int[][] right1 = {{0, 0}, {1, 1}, {15, 15}, {-16, -16}};
        for (int[] r : right1) {
            CHECKS.fine("place 1 at " + r[0] + ", " + r[1], () -> new RefineRegions().adaptive(1, r[0], r[1]));
        }
    }

    private static void keepGoesOn() {
        RefineRegions x = Scene.white(1, 1, 0, false);
        x.keep(true);
        x.encode();
        CHECKS.same("from those at first, where none was left", x.state(0, false), 2);
        x.encode();
        CHECKS.same("encode goes on", x.state(0, false), 4);
        CHECKS.same("decode has its own", x.state(0, true), 0);
        x.wipe();
        x.feed(2, 0L);
        x.decode();
        CHECKS.same("decode begins for itself", x.state(0, true), 2);
        x.decode();
        CHECKS.same("decode goes on", x.state(0, true), 12);
        CHECKS.same("and leaves those of encode", x.state(0, false), 4);
        x.keep(false);
        x.encode();
        x.keep(true);
        x.encode();
        CHECKS.same("it goes on where the last one began anew", x.state(0, false), 4);
        x.reference(2, 2);
        x.encode();
        CHECKS.same("another reference leaves them", x.state(0, false), 6);
        x.shape(1, 1, 0, false);
        x.encode();
        CHECKS.same("shape doesn't, but leaves what keep said", x.state(0, false), 2);
        x.encode();
        CHECKS.same("it goes on again", x.state(0, false), 4);
    }

    private static void keepIsOffAtFirst() {
        RefineRegions x = Scene.white(1, 1, 0, false);
        x.put(0, 0, true);
        for (int i = 0; i < 3; i++) {
            x.encode();
            CHECKS.same("encode begins anew", x.state(0, false), 3);
            CHECKS.same("the bytes, too", Scene.bytes(x), "FF 7F FF AC");
            x.decode();
            CHECKS.same("decode begins anew", x.state(0, true), 3);
        }
        x.keep(true);
        x.encode();
        x.decode();
        x.keep(false);
        CHECKS.same("keep itself changes no state of encode", x.state(0, false), 5);
        CHECKS.holds("nor one of decode", x.state(0, true) != 0);
        x.encode();
        CHECKS.same("encode begins anew again", x.state(0, false), 3);
        x.decode();
        CHECKS.same("decode begins anew again", x.state(0, true), 3);
    }

    /** The bytes were worked out apart from the class. */
    private static void encodeWrites() {
        String[] picture = Scene.rows("........", "..####..", ".#..#.#.", ".######.", "..####..", "#.......");
        String[] reference = Scene.rows("........", "...###..", "..#####.", "..#####.", "...###..", "........");
        String[] due = {"A9 85 EF D4 D0 BF FF AC", "BF D7 32 97 DA 5D FF AC", "A8 4E FF 37 DC E7 FF AC",
            "CD D4 61 F6 4A B7 FF AC"};
        for (int i = 0; i < 4; i++) {
            RefineRegions x = Scene.of(i / 2, i % 2 == 1, picture, reference);
            x.offset(-1, 0);
            x.adaptive(0, -2, 0);
            x.adaptive(1, 1, -2);
            x.encode();
            CHECKS.same("template " + i / 2 + ", typical " + i % 2, Scene.bytes(x), due[i]);
            StringBuilder still = new StringBuilder();
            for (int k = 0; k < 48; k++) {
                still.append(x.put(k % 8, k / 8, true) ? '#' : '.');
            }
            CHECKS.same("the picture stays", still.toString(), String.join("", picture));
        }
    }

    private static void encodeReplaces() {
        RefineRegions x = Scene.white(1, 1, 0, false);
        x.feed(8, 0x0102030405060708L);
        CHECKS.same("in place of more", x.encode(), 3);
        CHECKS.same("nothing is left of those", Scene.bytes(x), "7F FF AC");
        CHECKS.same("none behind them", x.byteAt(3), NONE);
        x.put(0, 0, true);
        CHECKS.same("in place of fewer", x.encode(), 4);
        CHECKS.same("all are there", Scene.bytes(x), "FF 7F FF AC");
        CHECKS.same("told as well", x.told(0), 4);
        CHECKS.same("feed goes on behind them", x.feed(1, 1L), 5);
        CHECKS.same("and is replaced again", x.encode(), 4);
    }

    private static void encodeNeedsOne() {
        REFUSALS.withoutReference("encode", x -> x.encode());
    }

    private static void feedAdds() {
        for (int n = 1; n <= 8; n++) {
            RefineRegions x = new RefineRegions();
            CHECKS.same("n is " + n, x.feed(n, 0x8877665544332211L), n);
            for (int i = 0; i < n; i++) {
                CHECKS.same("byte " + i, x.byteAt(i), 0x11 * (i + 1));
            }
            CHECKS.same("no more than n", x.byteAt(n), NONE);
            CHECKS.same("behind those", x.feed(n, -256L), 2 * n);
            CHECKS.same("the lowest one", x.byteAt(n), 0);
            CHECKS.same("the first ones stay", x.byteAt(0), 0x11);
            CHECKS.same("the last one", x.byteAt(2 * n - 1), n == 1 ? 0 : 255);
        }
    }

    /** Bytes of a picture that codes badly, since 512 calls of feed() alone come just to 4096. */
    private static RefineRegions fedUpTo(int count) {
        RefineRegions x = new RefineRegions();
        x.shape(40, 40, 0, false);
        x.reference(40, 40);
        x.feed(4, 516018099L);
        x.decode();
        x.take();
        int there = x.encode();
        int rest = (count - there) % 8;
        there = rest == 0 ? there : x.feed(rest, 0L);
        for (int i = there; i < count; i += 8) {
            there = x.feed(8, 0x0807060504030201L);
        }
        CHECKS.same("bytes that are there", there, count);
        return x;
    }

    private static void feedUpTo4096() {
        RefineRegions full = fedUpTo(4096);
        CHECKS.same("one more than 4096", full.feed(1, 99L), NONE);
        CHECKS.same("4096 stay", full.told(0), 4096);
        CHECKS.same("none came", full.byteAt(4096), NONE);
        CHECKS.same("the last one stays", full.byteAt(4095), 8);
        RefineRegions nearly = fedUpTo(4095);
        CHECKS.same("4095 and 2", nearly.feed(2, 0x6362L), NONE);
        CHECKS.same("not even the first one came", nearly.byteAt(4095), NONE);
        CHECKS.same("4095 stay", nearly.told(0), 4095);
        CHECKS.same("4095 and 1", nearly.feed(1, 97L), 4096);
        RefineRegions eight = fedUpTo(4089);
        CHECKS.same("4089 and 8", eight.feed(8, -1L), NONE);
        CHECKS.same("none of the eight came", eight.byteAt(4089), NONE);
        CHECKS.same("4089 and 7", eight.feed(7, 0x07060504030261L), 4096);
        CHECKS.same("all seven came", eight.byteAt(4089) + eight.byteAt(4095), 0x61 + 7);
        RefineRegions justEight = fedUpTo(4088);
        CHECKS.same("4088 and 8", justEight.feed(8, 0L), 4096);
        wrongNAndTooMany();
        eightBytes512Times();
    }

    private static void wrongNAndTooMany() {
        RefineRegions full = fedUpTo(4096);
        CHECKS.badArgument("too many, and n is 9", () -> full.feed(9, 0L));
        CHECKS.badArgument("n is 0", () -> full.feed(0, 0L));
        CHECKS.same("they can be wiped", full.wipe(), 4096);
        CHECKS.same("and then more come", full.feed(8, 0L), 8);
    }

    private static void eightBytes512Times() {
        RefineRegions x = new RefineRegions();
        for (int i = 1; i <= 512; i++) {
            CHECKS.same("call " + i, x.feed(8, -1L), 8 * i);
        }
    }

    private static void feedRefuses() {
        CHECKS.same("n is 1", new RefineRegions().feed(1, -1L), 1);
        CHECKS.same("n is 8", new RefineRegions().feed(8, -1L), 8);
        for (int wrong : new int[] {0, 9, -1, LEAST, MOST}) {
            refusedAlways("n is " + wrong, BAD_ARGUMENT, x -> x.feed(wrong, 0x1122334455667788L));
        }
    }

    private static void wipeAnswers() {
        RefineRegions x = Scene.of(0, false, Scene.rows("#."), Scene.rows(".."));
        CHECKS.same("none were there", x.wipe(), 0);
        x.feed(1, 255L);
        CHECKS.same("one", x.wipe(), 1);
        CHECKS.same("it is gone", x.byteAt(0), NONE);
        CHECKS.same("none is told", x.told(0), 0);
        CHECKS.same("none again", x.wipe(), 0);
        int count = x.encode();
        x.decode();
        int place = x.told(4);
        CHECKS.same("those of encode", x.wipe(), count);
        CHECKS.same("what was read stays", Scene.found(x, 2, 1), "#.");
        CHECKS.same("what is told stays", x.told(3), 2);
        CHECKS.same("B stays", x.told(4), place);
        CHECKS.same("the next ones begin at 0", x.feed(2, 0x0605L), 2);
        CHECKS.same("byte 0", x.byteAt(0), 5);
        x.wipe();
        x.decode();
        CHECKS.same("they are not read any more", x.told(4), 0);
    }

    private static void byteAtAnswers() {
        RefineRegions x = new RefineRegions();
        CHECKS.same("none is there", x.byteAt(0), NONE);
        x.feed(3, 0xFF0080L);
        CHECKS.same("128", x.byteAt(0), 128);
        CHECKS.same("0", x.byteAt(1), 0);
        CHECKS.same("255 is not NONE", x.byteAt(2), 255);
        for (int wrong : new int[] {3, -1, 4095, 4096, LEAST, MOST}) {
            CHECKS.same("byte " + wrong, x.byteAt(wrong), NONE);
        }
        x.wipe();
        x.feed(1, 9L);
        CHECKS.same("one that was there before", x.byteAt(1), NONE);
    }

    private static void decodeReadsTheBytes() {
        RefineRegions x = Scene.white(5, 4, 0, false);
        Scene.feed(x, "E5 05 EA 7F FF AC");
        CHECKS.same("black ones", x.decode(), 11);
        CHECKS.same("bytes that were fed", Scene.found(x, 5, 4), "###.# .##.# #..## ...#.");
        CHECKS.same("they stay", Scene.bytes(x), "E5 05 EA 7F FF AC");
        x.put(0, 0, true);
        x.decode();
        CHECKS.same("whatever the picture is", Scene.found(x, 5, 4), "###.# .##.# #..## ...#.");
        x.wipe();
        Scene.feed(x, "E5 05 EA 7F");
        x.decode();
        CHECKS.same("without the mark", Scene.found(x, 5, 4), "###.# .##.# #..## ...#.");
        x.wipe();
        Scene.feed(x, "13");
        x.decode();
        CHECKS.holds("other bytes, another picture", !Scene.found(x, 5, 4).equals("###.# .##.# #..## ...#."));
    }

    private static void decodeReadsTheSame() {
        String[] picture = Scene.rows("#..#...", ".##....", "...###.");
        String[] reference = Scene.rows("##..", "..##", "#..#", "####");
        for (int i = 0; i < 4; i++) {
            RefineRegions x = Scene.of(i / 2, i % 2 == 1, picture, reference);
            x.offset(2, -1);
            x.adaptive(0, 3, -2);
            x.adaptive(1, -2, 2);
            int count = x.encode();
            CHECKS.same("black", x.decode(), 7);
            CHECKS.same("read back", Scene.found(x, 7, 3), "#..#... .##.... ...###.");
            CHECKS.same("as large as the picture", x.at(7, 2), NONE);
            CHECKS.same("as high as the picture", x.at(6, 3), NONE);
            CHECKS.same("the picture stays", x.told(5), 0);
            CHECKS.same("the bytes stay", x.told(0), count);
            x.decode();
            CHECKS.same("read again", Scene.found(x, 7, 3), "#..#... .##.... ...###.");
        }
    }

    private static void decodeAnswers() {
        RefineRegions x = Scene.white(3, 3, 1, false);
        x.encode();
        CHECKS.same("none", x.decode(), 0);
        Scene.draw(x, "###", "###", "###");
        x.encode();
        CHECKS.same("all", x.decode(), 9);
        x.put(2, 2, false);
        CHECKS.same("of what was read, not of the picture", x.decode(), 9);
        x.encode();
        CHECKS.same("all but the last", x.decode(), 8);
    }

    private static void decodeNeedsOne() {
        REFUSALS.withoutReference("decode", x -> x.decode());
    }

    private static void atAnswers() {
        RefineRegions x = Scene.of(0, false, Scene.rows("#.", ".#", "##"), Scene.rows("."));
        x.encode();
        x.decode();
        CHECKS.same("each pixel", Scene.found(x, 2, 3), "#. .# ##");
        Scene.draw(x, "##", "##");
        CHECKS.same("put leaves it", Scene.found(x, 2, 3), "#. .# ##");
        x.encode();
        CHECKS.same("encode leaves it", Scene.found(x, 2, 3), "#. .# ##");
        x.decode();
        CHECKS.same("the next decode doesn't", Scene.found(x, 2, 3), "## ## ##");
    }

    private static void atOutside() {
        RefineRegions x = Scene.of(0, false, Scene.rows("##", "##"), Scene.rows("."));
        CHECKS.same("nothing was read", x.at(0, 0), NONE);
        x.encode();
        x.decode();
        CHECKS.same("the last one", x.at(1, 1), 1);
        int[][] outside = {{2, 0}, {0, 2}, {-1, 0}, {0, -1}, {2, 2}, {LEAST, 0}, {0, LEAST}, {MOST, 0}, {0, MOST}};
        for (int[] p : outside) {
            CHECKS.same("at " + p[0] + ", " + p[1], x.at(p[0], p[1]), NONE);
        }
        x.shape(2, 2, 0, false);
        CHECKS.same("nothing was read since shape", x.at(0, 0), NONE);
    }

    private static void takeTakes() {
        RefineRegions x = Scene.of(0, false, Scene.rows("#..", ".##"), Scene.rows("####", "####", "####", "####"));
        x.offset(-1, 2);
        x.encode();
        x.decode();
        x.put(0, 0, false);
        CHECKS.holds("take", x.take());
        CHECKS.badIndex("the width", () -> x.refer(3, 0, true));
        CHECKS.badIndex("the height", () -> x.refer(0, 2, true));
        CHECKS.same("offset 0, 0", x.context(0, 0), 1 << 8 | 1 << 4);
        StringBuilder drawn = new StringBuilder();
        for (int i = 0; i < 6; i++) {
            drawn.append(x.refer(i % 3, i / 3, true) ? '#' : '.');
        }
        CHECKS.same("its pixels", drawn.toString(), "#...##");
        CHECKS.same("what was read isn't the reference itself", Scene.found(x, 3, 2), "#.. .##");
        x.wipe();
        x.decode();
        CHECKS.holds("nor is what is read next", x.refer(1, 0, true));
        takeTakesAll(2, 7);
        takeTakesAll(7, 2);
    }

    /** Every pixel by itself, of pictures that are higher than wide, and wider than high. */
    private static void takeTakesAll(int width, int height) {
        RefineRegions x = Scene.white(width, height, 0, false);
        for (int i = 0; i < width * height; i++) {
            x.put(i % width, i / width, true);
            x.encode();
            x.decode();
            x.put(i % width, i / width, false);
            CHECKS.same("one pixel differs", x.told(5), 1);
            CHECKS.holds("take", x.take());
            CHECKS.same("pixel " + i + " is taken", x.context(i % width, i / width), 1 << 8);
        }
    }

    private static void takeAnswers() {
        RefineRegions x = Scene.of(0, false, Scene.rows("...", "..."), Scene.rows("#..", "..."));
        x.offset(1, 1);
        CHECKS.holds("nothing was read", !x.take());
        CHECKS.same("the reference and its offset stay", x.context(1, 1), 1 << 8);
        x.encode();
        CHECKS.holds("nor by encode", !x.take());
        x.decode();
        CHECKS.holds("something was read", x.take());
        CHECKS.holds("it is so still", x.take());
        x.reference(3, 2);
        x.refer(0, 0, true);
        x.offset(1, 1);
        x.shape(3, 2, 0, false);
        CHECKS.holds("not since shape", !x.take());
        CHECKS.same("the reference and its offset stay after shape", x.context(1, 1), 1 << 8);
        x.decode();
        CHECKS.holds("again since shape", x.take());
        Checks.outcome(() -> x.shape(0, 0, 0, false));
        CHECKS.holds("a shape that was refused doesn't count", x.take());
    }

    private static void contextAtBorders() {
        RefineRegions x = Scene.of(1, false, Scene.rows("##", "##"), Scene.rows("##", "##"));
        CHECKS.same("first", x.context(0, 0), 1 << 4 | 1 << 5 | 1 << 6 | 1 << 7);
        CHECKS.same("right", x.context(1, 0), 1 | 1 << 5 | 1 << 7 | 1 << 8);
        CHECKS.same("below", x.context(0, 1), 1 << 1 | 1 << 2 | 1 << 6 | 1 << 7 | 1 << 9);
        CHECKS.same("last", x.context(1, 1), 1 | 1 << 2 | 1 << 3 | 1 << 7 | 1 << 8 | 1 << 9);
        x.encode();
        x.wipe();
        x.decode();
        CHECKS.same("of the picture, not of what was read", x.context(1, 1) & 15, 1 | 1 << 2 | 1 << 3);
        x.shape(1, 1, 0, false);
        x.reference(1, 1);
        x.put(0, 0, true);
        CHECKS.same("a pixel is no part of its own context", x.context(0, 0), 0);
    }

    private static void contextNeedsOne() {
        REFUSALS.withoutReference("context", x -> x.context(0, 0));
    }

    private static void contextRefuses() {
        for (int[] p : NO_PIXELS) {
            REFUSALS.withReference("context " + p[0] + ", " + p[1], BAD_INDEX, x -> x.context(p[0], p[1]));
        }
        REFUSALS.check("right of 5 by 4", BAD_INDEX, x -> x.context(5, 3), Refusals.Setting.TEMPLATE_0);
        REFUSALS.check("below 5 by 4", BAD_INDEX, x -> x.context(4, 4), Refusals.Setting.TEMPLATE_0);
        RefineRegions x = Scene.white(40, 40, 0, false);
        CHECKS.fine("the last pixel", () -> x.context(39, 39));
    }

    private static void toldBytes() {
        RefineRegions x = Scene.white(1, 1, 0, false);
        CHECKS.same("none", x.told(0), 0);
        x.feed(5, 0L);
        CHECKS.same("those fed", x.told(0), 5);
        x.encode();
        CHECKS.same("those of encode", x.told(0), 3);
        x.decode();
        x.shape(2, 2, 0, false);
        CHECKS.same("decode and shape leave them", x.told(0), 3);
        x.wipe();
        CHECKS.same("none again", x.told(0), 0);
    }

    private static void toldOfTheLast() {
        RefineRegions x = Scene.of(0, true, Scene.rows("..", ".."), Scene.rows("."));
        x.encode();
        told("all are skipped", x, 4, 2, 2);
        x.put(1, 1, true);
        told("put leaves it", x, 4, 2, 2);
        x.decode();
        told("decode of the same", x, 4, 2, 2);
        x.encode();
        told("one row is plain", x, 2, 1, 2 + 2);
        x.put(0, 0, true);
        x.encode();
        told("no row is typical", x, 0, 0, 2 + 4);
        x.decode();
        told("decode of that", x, 0, 0, 2 + 4);
        x.shape(2, 2, 0, false);
        x.encode();
        told("not typical", x, 0, 0, 4);
        x.shape(40, 40, 1, true);
        x.encode();
        told("as many as can be skipped", x, 1600, 40, 40);
        Scene.draw(x, "#");
        x.encode();
        told("the largest with a plain row", x, 1560, 39, 40 + 40);
    }

    private static void told(String what, RefineRegions x, int skipped, int rows, int bits) {
        CHECKS.same(what + ": skipped", x.told(1), skipped);
        CHECKS.same(what + ": rows", x.told(2), rows);
        CHECKS.same(what + ": bits", x.told(3), bits);
    }

    private static void toldPlace() {
        RefineRegions x = Scene.white(8, 2, 0, false);
        x.encode();
        CHECKS.same("encode has none", x.told(4), 0);
        x.wipe();
        Scene.feed(x, "00 00 00 00");
        x.decode();
        CHECKS.same("behind the last byte", x.told(4), 4);
        x.encode();
        CHECKS.same("encode leaves it", x.told(4), 4);
        x.wipe();
        x.feed(2, 0xFFFFL);
        CHECKS.same("wipe and feed leave it", x.told(4), 4);
        x.decode();
        CHECKS.same("at the first byte", x.told(4), 0);
    }

    private static void toldAtFirst() {
        RefineRegions x = new RefineRegions();
        x.feed(3, 1L);
        x.shape(3, 3, 0, true);
        Checks.outcome(() -> x.encode());
        Checks.outcome(() -> x.decode());
        x.reference(3, 3);
        for (int what = 1; what <= 4; what++) {
            CHECKS.same("told " + what, x.told(what), 0);
        }
    }

    private static void shapeLeavesWhatIsTold() {
        RefineRegions x = Scene.of(0, true, Scene.rows("...", "#.."), Scene.rows("."));
        x.encode();
        x.decode();
        int place = x.told(4);
        CHECKS.holds("B is above 0", place > 0);
        x.shape(5, 5, 1, false);
        told("after shape", x, 3, 1, 2 + 3);
        CHECKS.same("B after shape", x.told(4), place);
        x.shape(1, 1, 0, true);
        told("after another shape", x, 3, 1, 2 + 3);
        CHECKS.same("B after another shape", x.told(4), place);
    }

    private static void toldDifferences() {
        RefineRegions x = Scene.of(0, false, Scene.rows("#.#", "..."), Scene.rows("."));
        CHECKS.same("nothing was read", x.told(5), NONE);
        x.encode();
        CHECKS.same("encode reads nothing", x.told(5), NONE);
        x.decode();
        CHECKS.same("none", x.told(5), 0);
        x.put(0, 0, false);
        CHECKS.same("white for black", x.told(5), 1);
        x.put(2, 1, true);
        CHECKS.same("black for white, at the last pixel", x.told(5), 2);
        Scene.draw(x, ".#.", "###");
        x.put(2, 0, false);
        CHECKS.same("all", x.told(5), 6);
        differencesOfEachPixel(2, 7);
        differencesOfEachPixel(7, 2);
        x.shape(3, 2, 0, false);
        CHECKS.same("nothing was read since shape", x.told(5), NONE);
    }

    private static void differencesOfEachPixel(int width, int height) {
        RefineRegions x = Scene.white(width, height, 0, false);
        x.encode();
        x.decode();
        for (int i = 0; i < width * height; i++) {
            x.put(i % width, i / width, true);
            CHECKS.same("black up to pixel " + i, x.told(5), i + 1);
        }
        x.encode();
        x.decode();
        CHECKS.same("now it is read so", x.told(5), 0);
    }

    private static void toldRefuses() {
        CHECKS.fine("0", () -> new RefineRegions().told(0));
        CHECKS.fine("5", () -> new RefineRegions().told(5));
        for (int wrong : new int[] {-1, 6, LEAST, MOST}) {
            refusedAlways("told " + wrong, BAD_ARGUMENT, x -> x.told(wrong));
        }
    }

    private static void stateAnswers() {
        RefineRegions x = Scene.white(1, 1, 0, false);
        CHECKS.same("at first", x.state(0, false), 0);
        x.encode();
        CHECKS.same("state 1, likely 0", x.state(0, false), 2);
        x.put(0, 0, true);
        x.encode();
        CHECKS.same("state 1, likely 1", x.state(0, false), 3);
        CHECKS.same("nothing of decode", x.state(0, true), 0);
        x.decode();
        CHECKS.same("decode: state 1, likely 1", x.state(0, true), 3);
        x.put(0, 0, false);
        x.encode();
        CHECKS.same("encode alone", x.state(0, false), 2);
        CHECKS.same("not decode", x.state(0, true), 3);
        lastContext();
    }

    /** The context 8191 is the one of a pixel about which all is black. */
    private static void lastContext() {
        RefineRegions x = Scene.of(0, false, Scene.rows("###", "###"), Scene.rows("###", "###", "###"));
        CHECKS.same("all is black", x.context(1, 1), 8191);
        x.encode();
        CHECKS.same("its state", x.state(8191, false), 3);
        x.decode();
        CHECKS.same("its state of decode", x.state(8191, true), 3);
    }

    private static void stateStays() {
        RefineRegions x = Scene.of(0, false, Scene.rows("#"), Scene.rows("."));
        x.encode();
        x.decode();
        Scene.draw(x, "#");
        x.keep(true);
        x.keep(false);
        x.adaptive(0, -3, 0);
        x.reference(4, 4);
        x.offset(1, 1);
        x.feed(1, 1L);
        x.wipe();
        x.take();
        Checks.outcome(() -> x.shape(41, 1, 0, false));
        CHECKS.same("of encode", x.state(0, false), 3);
        CHECKS.same("of decode", x.state(0, true), 3);
        x.shape(1, 1, 0, false);
        CHECKS.same("of encode, after shape", x.state(0, false), 0);
        CHECKS.same("of decode, after shape", x.state(0, true), 0);
    }

    private static void stateRefuses() {
        CHECKS.same("0", new RefineRegions().state(0, true), 0);
        CHECKS.same("8191", new RefineRegions().state(8191, false), 0);
        for (int wrong : new int[] {-1, 8192, LEAST, MOST}) {
            refusedAlways("context " + wrong, BAD_ARGUMENT, x -> x.state(wrong, false));
            refusedAlways("context " + wrong + " of decode", BAD_ARGUMENT, x -> x.state(wrong, true));
        }
    }
}
