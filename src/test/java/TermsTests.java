import java.util.function.BiPredicate;

/** The sentences of 'What it is', and those of 'Terms' about pictures, contexts and rows. */
public final class TermsTests {
    private static final int NONE = -1;
    private static final String TERMS = "Terms";
    private static final Checks CHECKS = new Checks();
    private static final Refusals REFUSALS = new Refusals(CHECKS);

    private static final int[][] PICTURE_PLACES = {{-1, 0}, {1, -1}, {0, -1}, {-1, -1}};
    private static final int[][] REFERENCE_PLACES_0 =
            {{1, 1}, {0, 1}, {-1, 1}, {1, 0}, {0, 0}, {-1, 0}, {1, -1}, {0, -1}, {-1, -1}};
    private static final int[][] REFERENCE_PLACES_1 = {{1, 1}, {0, 1}, {1, 0}, {0, 0}, {-1, 0}, {0, -1}};

    public static void main(String[] args) {
        all(Sentences.running(CHECKS));
        CHECKS.end("TermsTests");
    }

    static void all(Sentences sentences) {
        whatItIs(sentences);
        sizes(sentences);
        contexts(sentences);
        rows(sentences);
        refusedCalls(sentences);
    }

    private static void whatItIs(Sentences sentences) {
        String what = "What it is";
        sentences.test(what, "Pictures of black and white that refine others: each pixel is coded by those"
                + " around it that are known", TermsTests::codedByKnownPixels);
        sentences.test(what, "and by the nine around its place in a reference", TermsTests::codedByTheNine);
        sentences.test(what, "with an adaptive coder of bits", TermsTests::coderAdapts);
        sentences.test(what, "where the nine agree a row may do without", TermsTests::rowsDoWithout);
        sentences.test(what, "what is read back may be the next one's reference", TermsTests::nextReference);
        sentences.test(what, "An object is used for at most 512 calls after it has been made",
                TermsTests::callsUpTo512);
    }

    private static void sizes(Sentences sentences) {
        sentences.test(TERMS, "THE PICTURE has a WIDTH and HEIGHT, 1 to 40", TermsTests::pictureSizes);
        sentences.test(TERMS, "THE REFERENCE a width and height of its own, 1 to 60",
                TermsTests::referenceSizes);
        sentences.test(TERMS, "an OFFSET dx, dy, -20 to 20", TermsTests::offsets);
        sentences.test(TERMS, "reference pixel (x, y) of a place is the one at (x - dx, y - dy)",
                TermsTests::offsetMovesTheReference);
        sentences.test(TERMS, "Pixels are 1 (black) or 0", TermsTests::pixelsAreBits);
        sentences.test(TERMS, "outside of pictures and references they are 0", TermsTests::outsideIsWhite);
    }

    private static void contexts(Sentences sentences) {
        sentences.test(TERMS, "THE CONTEXT of a pixel at (x, y) is a number of bits, the lowest first",
                TermsTests::contextsAddUp);
        sentences.test(TERMS, "TEMPLATE 0: of the picture (x - 1, y), (x + 1, y - 1), (x, y - 1), and the one at"
                + " its ADAPTIVE place 0; of the reference, about (x, y): (1, 1), (0, 1), (-1, 1), (1, 0), (0, 0),"
                + " (-1, 0), (1, -1), (0, -1), and the one at adaptive place 1", () -> contextBits(0));
        sentences.test(TERMS, "TEMPLATE 1: of the picture (x - 1, y), (x + 1, y - 1), (x, y - 1), (x - 1, y - 1);"
                + " of the reference (1, 1), (0, 1), (1, 0), (0, 0), (-1, 0), (0, -1)", () -> contextBits(1));
        sentences.test(TERMS, "Adaptive places are (x + p, y + q)", TermsTests::adaptivePlacesAnywhere);
        sentences.test(TERMS, "both (-1, -1) at first", TermsTests::adaptivePlacesAtFirst);
        sentences.test(TERMS, "place 0 with q below 0, p -16 to 15", TermsTests::place0Above);
        sentences.test(TERMS, "or q 0, p -16 to -1", TermsTests::place0Beside);
        sentences.test(TERMS, "q at least -16", TermsTests::place0Top);
        sentences.test(TERMS, "place 1 with p, q -16 to 15", TermsTests::place1);
    }

    private static void rows(Sentences sentences) {
        sentences.test(TERMS, "CODING goes row by row, each from left to right, y and x from 0 on",
                TermsTests::orderOfCoding);
        sentences.test(TERMS, "If it is TYPICAL, each row begins with a bit, in the context 16 (template 0) or 8"
                + " (template 1)", TermsTests::contextOfARow);
        sentences.test(TERMS,
                "whether the row is done otherwise than the one before (the first one: than plain)",
                TermsTests::bitOfARow);
        sentences.test(TERMS, "In a row done typically a pixel for which the nine reference pixels about its place are all alike is"
                + " that, and isn't coded (SKIPPED)", TermsTests::skippedPixels);
        sentences.test(TERMS, "All other pixels are coded each in its context", TermsTests::otherPixels);
        sentences.test(TERMS,
                "ENCODING does a row typically just when all its pixels whose nine agree are as those",
                TermsTests::rowsDoneTypically);
    }

    private static void refusedCalls(Sentences sentences) {
        sentences.test(TERMS, "Methods throw what their comments name", TermsTests::everyException);
        sentences.test(TERMS, "the one named first when several would do", TermsTests::firstNamedException);
        sentences.test(TERMS, "a call that throws changes nothing", TermsTests::refusalsInARow);
    }

    /** Black from the pixel itself on, to the end of the picture: none of that is known yet. */
    private static void codedByKnownPixels() {
        for (int template = 0; template < 2; template++) {
            for (int q = -16; q <= 0; q++) {
                RefineRegions x = blackFromThePixelOn(template);
                for (int p = -16; p <= (q == 0 ? -1 : 15); p++) {
                    x.adaptive(0, p, q);
                    CHECKS.same("nothing known is black, place 0 at " + p + ", " + q, x.context(20, 20), 0);
                }
            }
            RefineRegions x = blackFromThePixelOn(template);
            x.put(19, 20, true);
            CHECKS.same("now the pixel before is black", x.context(20, 20), 1);
            x.encode();
            x.decode();
            CHECKS.same("reading knows as much", x.told(5), 0);
        }
    }

    private static RefineRegions blackFromThePixelOn(int template) {
        RefineRegions x = Scene.white(40, 22, template, false);
        for (int i = 20 * 40 + 20; i < 22 * 40; i++) {
            x.put(i % 40, i / 40, true);
        }
        return x;
    }

    private static void codedByTheNine() {
        for (int template = 0; template < 2; template++) {
            RefineRegions x = new RefineRegions();
            x.shape(9, 9, template, false);
            x.reference(9, 9);
            for (int i = 0; i < 81; i++) {
                boolean near = Math.abs(i % 9 - 4) <= 1 && Math.abs(i / 9 - 4) <= 1;
                x.refer(i % 9, i / 9, !near);
            }
            CHECKS.same("all is black but the nine", x.context(4, 4), 0);
            for (int i = 0; i < 81; i++) {
                boolean near = Math.abs(i % 9 - 4) <= 1 && Math.abs(i / 9 - 4) <= 1;
                x.refer(i % 9, i / 9, near);
            }
            CHECKS.same("only the nine are black", x.context(4, 4), template == 0 ? 8191 - 15 : 1023 - 15);
        }
    }

    private static void coderAdapts() {
        RefineRegions x = Scene.white(40, 40, 0, false);
        x.keep(true);
        CHECKS.same("1600 white pixels", x.encode(), 3);
        CHECKS.same("1600 more", x.encode(), 4);
        x.keep(false);
        for (int i = 0; i < 40; i++) {
            x.put(i, 7 * i % 40, true);
        }
        int once = x.encode();
        x.keep(true);
        CHECKS.holds("the same again is shorter, since the coder knows it", x.encode() < once);
    }

    private static void rowsDoWithout() {
        RefineRegions x = Scene.of(0, true, Scene.rows("....", "....", "....", "...."), Scene.rows("....", "....",
                "....", "...#"));
        x.encode();
        CHECKS.same("pixels whose nine agree", x.told(1), 12);
        CHECKS.same("bits for the rows and the others", x.told(3), 4 + 4);
        x.put(0, 2, true);
        x.encode();
        CHECKS.same("it only may: that row codes all", x.told(1), 10);
        CHECKS.same("bits then", x.told(3), 4 + 6);
    }

    /** One object writes, another one reads; each refines what it has read the last time. */
    private static void nextReference() {
        RefineRegions sender = Scene.of(0, true, Scene.rows("......", "......", "......"), Scene.rows("."));
        RefineRegions receiver = Scene.white(6, 3, 0, true);
        String[][] pictures = {{"..##..", ".####.", "..##.."}, {"..##..", ".#####", "..##.."},
            {"..###.", "######", "..###."}, {"..###.", "######", "..###."}};
        for (String[] picture : pictures) {
            sender.keep(true);
            receiver.keep(true);
            for (int i = 0; i < 18; i++) {
                sender.put(i % 6, i / 6, picture[i / 6].charAt(i % 6) == '#');
            }
            sender.encode();
            sender.decode();
            sender.take();
            receiver.wipe();
            Scene.feed(receiver, Scene.bytes(sender));
            receiver.decode();
            CHECKS.same("what is received", Scene.found(receiver, 6, 3), String.join(" ", picture));
            CHECKS.holds("it becomes the reference", receiver.take());
        }
        CHECKS.same("the nine in the last reference", receiver.context(3, 1) >> 4, 511);
        CHECKS.same("the nine at its border", receiver.context(0, 1) >> 4, (1 << 3) + (1 << 4));
    }

    /** Calls that do the most, up to the last one that is promised. */
    private static void callsUpTo512() {
        RefineRegions x = new RefineRegions();
        Oracle oracle = new Oracle();
        x.shape(40, 40, 0, true);
        oracle.shape(40, 40, 0, true);
        x.reference(60, 60);
        oracle.reference(60, 60);
        x.keep(true);
        oracle.keep(true);
        for (int call = 4; call <= 508; call += 3) {
            int u = call % 40;
            int v = call * 7 % 40;
            boolean black = call % 5 > 0;
            CHECKS.same("put, call " + call, x.put(u, v, black) ? 1 : 0, oracle.put(u, v, black) ? 1 : 0);
            CHECKS.same("encode, call " + (call + 1), x.encode(), oracle.encode());
            CHECKS.same("decode, call " + (call + 2), x.decode(), oracle.decode());
        }
        CHECKS.same("told, call 511", x.told(5), 0);
        CHECKS.same("encode, call 512", x.encode(), oracle.encode());
    }

    private static void pictureSizes() {
        int[][] sizes = {{1, 1}, {40, 40}, {1, 40}, {40, 1}, {39, 2}};
        for (int[] size : sizes) {
            RefineRegions x = Scene.white(size[0], size[1], 0, false);
            String name = "a picture of " + size[0] + " by " + size[1];
            CHECKS.fine(name + ": its last pixel", () -> x.put(size[0] - 1, size[1] - 1, true));
            CHECKS.badIndex(name + ": none right of it", () -> x.put(size[0], 0, true));
            CHECKS.badIndex(name + ": none below it", () -> x.put(0, size[1], true));
            x.encode();
            CHECKS.same(name + ": a bit for each pixel", x.told(3), size[0] * size[1]);
            CHECKS.same(name + ": read back", x.decode(), 1);
            CHECKS.same(name + ": the last pixel, read back", x.at(size[0] - 1, size[1] - 1), 1);
        }
        REFUSALS.always("width 0", "IllegalArgumentException", x -> x.shape(0, 40, 0, false));
        REFUSALS.always("width 41", "IllegalArgumentException", x -> x.shape(41, 40, 0, false));
        REFUSALS.always("height 0", "IllegalArgumentException", x -> x.shape(40, 0, 0, false));
        REFUSALS.always("height 41", "IllegalArgumentException", x -> x.shape(40, 41, 0, false));
    }

    private static void referenceSizes() {
        RefineRegions x = new RefineRegions();
        x.shape(40, 40, 0, false);
        int[][] sizes = {{1, 1}, {60, 60}, {1, 60}, {60, 1}, {59, 2}};
        for (int[] size : sizes) {
            x.reference(size[0], size[1]);
            String name = "a reference of " + size[0] + " by " + size[1];
            CHECKS.fine(name + ": its last pixel", () -> x.refer(size[0] - 1, size[1] - 1, true));
            CHECKS.badIndex(name + ": none right of it", () -> x.refer(size[0], 0, true));
            CHECKS.badIndex(name + ": none below it", () -> x.refer(0, size[1], true));
            CHECKS.fine("the picture has its own size", () -> x.put(39, 39, false));
            CHECKS.badIndex("the picture has its own width", () -> x.put(40, 0, false));
        }
        x.shape(3, 3, 0, false);
        CHECKS.fine("shape leaves the reference its size", () -> x.refer(58, 1, true));
        REFUSALS.always("width 0", "IllegalArgumentException", y -> y.reference(0, 60));
        REFUSALS.always("width 61", "IllegalArgumentException", y -> y.reference(61, 60));
        REFUSALS.always("height 0", "IllegalArgumentException", y -> y.reference(60, 0));
        REFUSALS.always("height 61", "IllegalArgumentException", y -> y.reference(60, 61));
    }

    private static void offsets() {
        RefineRegions x = Scene.white(1, 1, 0, false);
        int[] right = {-20, -19, 0, 19, 20};
        for (int d : right) {
            CHECKS.fine("dx " + d, () -> x.offset(d, 0));
            CHECKS.fine("dy " + d, () -> x.offset(0, d));
            CHECKS.fine("dx and dy " + d, () -> x.offset(d, -d));
        }
        int[] wrong = {-21, 21};
        for (int d : wrong) {
            REFUSALS.withReference("dx " + d, "IllegalArgumentException", y -> y.offset(d, 0));
            REFUSALS.withReference("dy " + d, "IllegalArgumentException", y -> y.offset(0, d));
        }
    }

    private static void offsetMovesTheReference() {
        int[][] offsets = {{20, 20}, {-20, -20}, {20, -20}, {-20, 20}, {0, 0}, {1, -2}};
        for (int[] d : offsets) {
            for (int template = 0; template < 2; template++) {
                RefineRegions x = new RefineRegions();
                x.shape(40, 40, template, false);
                x.reference(60, 60);
                x.offset(d[0], d[1]);
                x.refer(20 - d[0], 20 - d[1], true);
                int middle = template == 0 ? 1 << 8 : 1 << 7;
                CHECKS.same("offset " + d[0] + ", " + d[1], x.context(20, 20), middle);
                CHECKS.same("the one on its right", x.context(21, 20), template == 0 ? 1 << 9 : 1 << 8);
                CHECKS.same("the one below it", x.context(20, 21), template == 0 ? 1 << 11 : 1 << 9);
            }
        }
    }

    private static void pixelsAreBits() {
        RefineRegions x = Scene.of(1, false, Scene.rows("#.", ".#"), Scene.rows(".."));
        x.encode();
        CHECKS.same("two are black", x.decode(), 2);
        CHECKS.same("black", x.at(0, 0), 1);
        CHECKS.same("white", x.at(1, 0), 0);
        CHECKS.same("painted black twice", x.put(0, 0, true) && x.put(0, 0, true) ? 1 : 0, 1);
        CHECKS.same("it counts once", x.told(5), 0);
        CHECKS.same("and is one bit of a context", x.context(1, 0), 1);
    }

    /** A context, worked out from where the picture and the reference (unmoved) are black. */
    private static int contextOf(int x, int y, int template, BiPredicate<Integer, Integer> picture,
            BiPredicate<Integer, Integer> reference) {
        int context = 0;
        int weight = 1;
        for (int[] d : PICTURE_PLACES) {
            context += picture.test(x + d[0], y + d[1]) ? weight : 0;
            weight *= 2;
        }
        for (int[] d : template == 0 ? REFERENCE_PLACES_0 : REFERENCE_PLACES_1) {
            context += reference.test(x + d[0], y + d[1]) ? weight : 0;
            weight *= 2;
        }
        return context;
    }

    private static void outsideIsWhite() {
        for (int template = 0; template < 2; template++) {
            RefineRegions x = new RefineRegions();
            // The black of larger ones that were there before must not show at the borders.
            Scene.draw(x, "########", "########", "########", "########", "########");
            Scene.refer(x, "#####", "#####", "#####", "#####", "#####");
            x.shape(4, 3, template, false);
            Scene.draw(x, "####", "####", "####");
            Scene.refer(x, "####", "####", "####");
            BiPredicate<Integer, Integer> black = (u, v) -> u >= 0 && u < 4 && v >= 0 && v < 3;
            for (int i = 0; i < 12; i++) {
                CHECKS.same("template " + template + ", all black, pixel " + i, x.context(i % 4, i / 4),
                        contextOf(i % 4, i / 4, template, black, black));
            }
            outsideOfTheLargestPicture(template);
            outsideOfTheLargestReference(template);
        }
        farPlacesAreWhite();
        whatWasTakenIsWhiteOutside();
    }

    private static boolean onFrame(int u, int v, int side) {
        boolean inside = u >= 0 && u < side && v >= 0 && v < side;
        return inside && (u == 0 || u == side - 1 || v == 0 || v == side - 1);
    }

    /** A black frame: what lies beyond one border must not be the other one. */
    private static void outsideOfTheLargestPicture(int template) {
        RefineRegions x = new RefineRegions();
        x.shape(40, 40, template, false);
        x.reference(1, 1);
        for (int i = 0; i < 1600; i++) {
            if (onFrame(i % 40, i / 40, 40)) {
                x.put(i % 40, i / 40, true);
            }
        }
        for (int i = 0; i < 40; i++) {
            int[][] places = {{0, i}, {39, i}, {i, 0}, {i, 39}};
            for (int[] p : places) {
                CHECKS.same("frame of a picture, " + p[0] + ", " + p[1], x.context(p[0], p[1]),
                        contextOf(p[0], p[1], template, (u, v) -> onFrame(u, v, 40), (u, v) -> false));
            }
        }
        x.encode();
        x.decode();
        CHECKS.same("the frame, read back", x.told(5), 0);
    }

    private static void outsideOfTheLargestReference(int template) {
        RefineRegions x = new RefineRegions();
        x.shape(40, 40, template, false);
        x.reference(60, 60);
        for (int i = 0; i < 3600; i++) {
            if (onFrame(i % 60, i / 60, 60)) {
                x.refer(i % 60, i / 60, true);
            }
        }
        for (int i = 0; i < 40; i++) {
            frameOfAReference(x, template, 0, 0, i);
            frameOfAReference(x, template, 0, i, 0);
        }
        x.offset(-20, -20);
        for (int i = 0; i < 40; i++) {
            frameOfAReference(x, template, 20, 39, i);
            frameOfAReference(x, template, 20, i, 39);
        }
    }

    private static void frameOfAReference(RefineRegions x, int template, int moved, int u, int v) {
        CHECKS.same("frame of a reference, " + u + ", " + v, x.context(u, v),
                contextOf(u + moved, v + moved, template, (a, b) -> false, (a, b) -> onFrame(a, b, 60)));
    }

    private static void farPlacesAreWhite() {
        RefineRegions x = Scene.of(0, false, Scene.rows("###", "###"), Scene.rows("###", "###"));
        int without = x.context(1, 1) & ~(1 << 3) & ~(1 << 12);
        int[][] far = {{15, -1}, {-16, -1}, {2, -1}, {-2, -1}, {-1, -2}, {15, -16}, {-16, -16}, {-2, 0}};
        for (int[] place : far) {
            x.adaptive(0, place[0], place[1]);
            x.adaptive(1, place[0], place[1]);
            CHECKS.same("adaptive places " + place[0] + ", " + place[1], x.context(1, 1), without);
        }
        x.offset(20, 20);
        CHECKS.same("a reference that lies elsewhere", x.context(1, 1) >> 4, 0);
        x.offset(-20, -20);
        CHECKS.same("a reference that lies elsewhere", x.context(1, 1) >> 4, 0);
    }

    private static void whatWasTakenIsWhiteOutside() {
        RefineRegions x = new RefineRegions();
        x.shape(2, 2, 0, false);
        Scene.draw(x, "##", "##");
        Scene.refer(x, "####", "####", "####", "####");
        x.encode();
        x.decode();
        x.take();
        CHECKS.same("beside what was taken", x.context(1, 1) >> 4, (1 << 4) + (1 << 5) + (1 << 7) + (1 << 8));
    }

    /** Each place by itself. */
    private static void contextBits(int template) {
        RefineRegions x = new RefineRegions();
        x.shape(5, 5, template, false);
        x.reference(5, 5);
        for (int i = 0; i < 25; i++) {
            int right = i % 5 - 2;
            int down = i / 5 - 2;
            int[][] ofReference = template == 0 ? REFERENCE_PLACES_0 : REFERENCE_PLACES_1;
            String place = right + ", " + down;
            x.put(i % 5, i / 5, true);
            CHECKS.same("picture, " + place, x.context(2, 2), weight(PICTURE_PLACES, right, down));
            x.put(i % 5, i / 5, false);
            x.refer(i % 5, i / 5, true);
            CHECKS.same("reference, " + place, x.context(2, 2), weight(ofReference, right, down) << 4);
            x.refer(i % 5, i / 5, false);
        }
    }

    /** Many places at once: one more black pixel each time, in an order that mixes the two. */
    private static void contextsAddUp() {
        for (int template = 0; template < 2; template++) {
            RefineRegions x = new RefineRegions();
            x.shape(3, 3, template, false);
            x.reference(3, 3);
            int[][] ofReference = template == 0 ? REFERENCE_PLACES_0 : REFERENCE_PLACES_1;
            int due = 0;
            for (int i = 0; i < 9; i++) {
                int u = i * 2 % 9 % 3;
                int v = i * 2 % 9 / 3;
                x.put(u, v, true);
                due += weight(PICTURE_PLACES, u - 1, v - 1);
                CHECKS.same("template " + template + ", " + (i + 1) + " of each", x.context(1, 1), due);
                x.refer(2 - u, v, true);
                due += weight(ofReference, 1 - u, v - 1) << 4;
                CHECKS.same("template " + template + ", one more", x.context(1, 1), due);
            }
            CHECKS.same("template " + template + ", all", due, template == 0 ? 8191 : 1023);
        }
    }

    private static int weight(int[][] places, int right, int down) {
        for (int i = 0; i < places.length; i++) {
            if (places[i][0] == right && places[i][1] == down) {
                return 1 << i;
            }
        }
        return 0;
    }

    private static void adaptivePlacesAnywhere() {
        RefineRegions x = new RefineRegions();
        x.shape(40, 40, 0, false);
        x.reference(60, 60);
        x.put(20, 20, true);
        x.refer(20, 20, true);
        x.offset(3, -2);
        int[][] places = {{-16, 0}, {-2, 0}, {15, -16}, {-16, -16}, {3, -1}, {0, -5}};
        for (int[] place : places) {
            x.adaptive(0, place[0], place[1]);
            x.adaptive(1, place[0], place[1]);
            String name = place[0] + ", " + place[1];
            CHECKS.same("place 0 at " + name, x.context(20 - place[0], 20 - place[1]) & 15, 1 << 3);
            CHECKS.same("place 1 at " + name, x.context(23 - place[0], 18 - place[1]) >> 4 << 4, 1 << 12);
            CHECKS.same("beside place 0 at " + name, x.context(18 - place[0], 20 - place[1]) & 8, 0);
            CHECKS.same("beside place 1 at " + name, x.context(21 - place[0], 18 - place[1]) >> 12, 0);
        }
    }

    private static void adaptivePlacesAtFirst() {
        RefineRegions x = new RefineRegions();
        x.reference(8, 8);
        bothPlacesAreUpLeft("of a new object", x);
        x.adaptive(0, 4, -1);
        x.adaptive(1, 4, 4);
        x.shape(8, 8, 0, true);
        x.reference(8, 8);
        bothPlacesAreUpLeft("after shape", x);
    }

    private static void bothPlacesAreUpLeft(String when, RefineRegions x) {
        x.put(2, 3, true);
        CHECKS.same("place 0 " + when, x.context(3, 4), 1 << 3);
        x.put(2, 3, false);
        x.refer(2, 3, true);
        CHECKS.same("place 1 " + when, x.context(3, 4), 1 << 12);
        x.refer(2, 3, false);
    }

    /** That a place can be there, and that it is looked at there. */
    private static void canBeThere(int k, int p, int q) {
        RefineRegions x = new RefineRegions();
        x.shape(40, 40, 0, false);
        x.reference(40, 40);
        CHECKS.fine("place " + k + " at " + p + ", " + q, () -> x.adaptive(k, p, q));
        int context = x.context(20, 20);
        if (k == 0) {
            x.put(20 + p, 20 + q, true);
        } else {
            x.refer(20 + p, 20 + q, true);
        }
        int bit = k == 0 ? 1 << 3 : 1 << 12;
        CHECKS.same("place " + k + " at " + p + ", " + q + " is seen", x.context(20, 20) & bit, bit);
        CHECKS.same("place " + k + " at " + p + ", " + q + " was white", context, 0);
        x.encode();
        CHECKS.same("place " + k + " at " + p + ", " + q + ", read back", x.decode(), k == 0 ? 1 : 0);
    }

    private static void cannotBeThere(int k, int p, int q) {
        REFUSALS.always("place " + k + " at " + p + ", " + q, "IllegalArgumentException",
                x -> x.adaptive(k, p, q));
    }

    private static void place0Above() {
        for (int q : new int[] {-16, -2, -1}) {
            canBeThere(0, -16, q);
            canBeThere(0, 0, q);
            canBeThere(0, 15, q);
            cannotBeThere(0, -17, q);
            cannotBeThere(0, 16, q);
        }
        cannotBeThere(0, -1, 1);
        cannotBeThere(0, 0, 1);
        cannotBeThere(0, -1, 15);
    }

    private static void place0Beside() {
        canBeThere(0, -16, 0);
        canBeThere(0, -2, 0);
        canBeThere(0, -1, 0);
        cannotBeThere(0, -17, 0);
        cannotBeThere(0, 0, 0);
        cannotBeThere(0, 1, 0);
        cannotBeThere(0, 15, 0);
    }

    private static void place0Top() {
        for (int p : new int[] {-16, -1, 0, 15}) {
            canBeThere(0, p, -16);
            cannotBeThere(0, p, -17);
        }
        cannotBeThere(0, -1, Integer.MIN_VALUE);
    }

    private static void place1() {
        for (int d : new int[] {-16, 15}) {
            canBeThere(1, d, -16);
            canBeThere(1, d, 0);
            canBeThere(1, d, 15);
            canBeThere(1, 0, d);
            canBeThere(1, 1, d);
        }
        for (int d : new int[] {-17, 16}) {
            cannotBeThere(1, d, -16);
            cannotBeThere(1, d, 0);
            cannotBeThere(1, d, 15);
            cannotBeThere(1, -16, d);
            cannotBeThere(1, 0, d);
            cannotBeThere(1, 15, d);
        }
    }

    /** The bytes were worked out apart from the class; each mirrored picture has others. */
    private static void orderOfCoding() {
        String[] white = Scene.rows("...", "...");
        CHECKS.same("the first pixel", Scene.coded(Scene.rows("#..", "..."), white), "B7 FF AC");
        CHECKS.same("the last of the first row", Scene.coded(Scene.rows("..#", "..."), white), "3B FF AC");
        CHECKS.same("the first of the last row", Scene.coded(Scene.rows("...", "#.."), white), "47 FF AC");
        CHECKS.same("the last pixel", Scene.coded(Scene.rows("...", "..#"), white), "5F FF AC");
    }

    private static void contextOfARow() {
        for (int template = 0; template < 2; template++) {
            int context = template == 0 ? 16 : 8;
            RefineRegions x = Scene.white(1, 1, template, true);
            x.encode();
            x.decode();
            for (int other = 0; other < 32; other++) {
                int due = other == context ? 3 : 0;
                CHECKS.same("state " + other + " of encode", x.state(other, false), due);
                CHECKS.same("state " + other + " of decode", x.state(other, true), due);
            }
            x.shape(1, 1, template, false);
            x.encode();
            CHECKS.same("no such bit in a coding that is not typical", x.state(context, false), 0);
            CHECKS.same("one bit alone then", x.told(3), 1);
        }
        // Here the pixel's own context is 16 as well, and its bit goes on from the row's.
        RefineRegions x = Scene.of(0, true, Scene.rows("."), Scene.rows("..", ".#"));
        x.encode();
        CHECKS.same("a row's and a pixel's bit in one context", x.state(16, false), 13);
        CHECKS.same("both are coded", x.told(3), 2);
    }

    /** With a white reference a white row of one pixel is done typically, a black one plainly. */
    private static void bitOfARow() {
        for (int template = 0; template < 2; template++) {
            rowBits("one typical row", template, 3, ".");
            rowBits("one plain row", template, 2, "#");
            rowBits("two typical rows", template, 13, ".", ".");
            rowBits("a typical row, a plain one", template, 5, ".", "#");
            rowBits("a plain row, a typical one", template, 12, "#", ".");
            rowBits("two plain rows", template, 4, "#", "#");
        }
    }

    private static void rowBits(String what, int template, int due, String... picture) {
        RefineRegions x = Scene.of(template, true, picture, Scene.rows("."));
        x.encode();
        CHECKS.same(what + ", state of encode", x.state(template == 0 ? 16 : 8, false), due);
        x.decode();
        CHECKS.same(what + ", state of decode", x.state(template == 0 ? 16 : 8, true), due);
        CHECKS.same(what + ", read back", x.told(5), 0);
        int typicalRows = 0;
        for (String row : picture) {
            typicalRows += row.equals(".") ? 1 : 0;
        }
        CHECKS.same(what + ", rows", x.told(2), typicalRows);
    }

    private static void skippedPixels() {
        for (int i = 0; i < 36; i++) {
            nineWithOneOther(i % 9, i / 9 % 2 == 0, i / 18);
        }
        RefineRegions x = Scene.of(0, true, Scene.rows("###", "###", "###"), Scene.rows("###", "###", "###"));
        x.encode();
        CHECKS.same("of a black square only the middle is skipped", x.told(1), 1);
        CHECKS.same("the others are coded", x.told(3), 3 + 8);
        x.offset(20, 20);
        x.shape(3, 3, 0, true);
        x.encode();
        CHECKS.same("nine outside of the reference agree, too", x.told(1), 9);
        CHECKS.same("only the rows' bits are left", x.told(3), 3);
    }

    /** Nine pixels that are alike are skipped, whatever they are; not so when one of them differs. */
    private static void nineWithOneOther(int other, boolean black, int template) {
        RefineRegions x = new RefineRegions();
        x.shape(1, 1, template, true);
        x.put(0, 0, black);
        x.reference(3, 3);
        for (int i = 0; i < 9; i++) {
            x.refer(i % 3, i / 3, black);
        }
        x.offset(-1, -1);
        String name = "nine " + (black ? "black" : "white") + " ones";
        x.encode();
        CHECKS.same(name + ": skipped", x.told(1), 1);
        CHECKS.same(name + ": bits", x.told(3), 1);
        CHECKS.same(name + ": the pixel is as those", x.decode(), black ? 1 : 0);
        CHECKS.same(name + ": skipped in reading", x.told(1), 1);
        x.refer(other % 3, other / 3, !black);
        x.encode();
        CHECKS.same(name + " but for number " + other + ": skipped", x.told(1), 0);
        CHECKS.same(name + " but for number " + other + ": bits", x.told(3), 2);
        CHECKS.same(name + " but for number " + other + ": read", x.decode(), black ? 1 : 0);
    }

    private static void otherPixels() {
        RefineRegions x = Scene.of(0, true, Scene.rows("....#", "....."), Scene.rows("...."));
        x.encode();
        CHECKS.same("a plain row: also those whose nine agree", x.told(3), 2 + 5);
        CHECKS.same("only the other row's are skipped", x.told(1), 5);
        x.decode();
        CHECKS.same("read so as well", x.told(3), 2 + 5);
        CHECKS.same("what is read", Scene.found(x, 5, 2), "....# .....");
        RefineRegions y = Scene.of(0, false, Scene.rows("...."), Scene.rows("...."));
        y.encode();
        CHECKS.same("not typical: all pixels", y.told(3), 4);
        CHECKS.same("not typical: none is skipped", y.told(1), 0);
    }

    private static void rowsDoneTypically() {
        String[] reference = Scene.rows("......", "......", "...###", "...###", "...###", "......");
        typicalRows("all as their nine", 6, reference,
                "......", "......", "...###", "...###", "...###", "......");
        typicalRows("those differ whose nine do", 6, reference,
                "......", "..#.#.", "..##..", "..#.#.", "......", "......");
        typicalRows("the first pixel of a row", 5, reference,
                "......", "......", "#..###", "...###", "...###", "......");
        typicalRows("the last pixel of a row", 5, reference,
                ".....#", "......", "...###", "...###", "...###", "......");
        typicalRows("white in the midst of black", 5, reference,
                "......", "......", "...###", "...#.#", "...###", "......");
        typicalRows("no row", 0, Scene.rows("."), "#.", ".#", "##");
        typicalRows("a row in which no nine agree", 1, Scene.rows(".#"), "#.");
        rowBesideBlack();
        RefineRegions x = Scene.of(0, true, Scene.rows("#."), Scene.rows(".#"));
        x.encode();
        CHECKS.same("a row in which no nine agree: nothing is skipped", x.told(1), 0);
        CHECKS.same("a row in which no nine agree: bits", x.told(3), 3);
    }

    /** The reference goes on to be black where the picture has ended. */
    private static void rowBesideBlack() {
        RefineRegions x = Scene.of(0, true, Scene.rows("##"), Scene.rows("######", "######", "######"));
        for (int dx = -3; dx <= -1; dx++) {
            x.offset(dx, -1);
            x.encode();
            CHECKS.same("beside black: rows", x.told(2), 1);
            CHECKS.same("beside black: skipped", x.told(1), 2);
        }
    }

    private static void typicalRows(String what, int due, String[] reference, String... picture) {
        for (int template = 0; template < 2; template++) {
            RefineRegions x = Scene.of(template, true, picture, reference);
            x.encode();
            CHECKS.same(what + ": rows in writing", x.told(2), due);
            x.decode();
            CHECKS.same(what + ": rows in reading", x.told(2), due);
            CHECKS.same(what + ": read back", Scene.found(x, picture[0].length(), picture.length),
                    String.join(" ", picture));
        }
    }

    /** For each method and each exception that its comment names; what isn't named is not thrown. */
    private static void everyException() {
        String argument = "IllegalArgumentException";
        String index = "IndexOutOfBoundsException";
        REFUSALS.always("shape", argument, x -> x.shape(0, 1, 0, false));
        REFUSALS.always("put", index, x -> x.put(-1, 0, false));
        REFUSALS.always("reference", argument, x -> x.reference(1, 0));
        REFUSALS.withoutReference("refer", x -> x.refer(0, 0, false));
        REFUSALS.withReference("refer", index, x -> x.refer(0, -1, false));
        REFUSALS.withoutReference("offset", x -> x.offset(0, 0));
        REFUSALS.withReference("offset", argument, x -> x.offset(0, 21));
        REFUSALS.always("adaptive", argument, x -> x.adaptive(2, 0, 0));
        REFUSALS.withoutReference("encode", x -> x.encode());
        REFUSALS.always("feed", argument, x -> x.feed(0, 0L));
        REFUSALS.withoutReference("decode", x -> x.decode());
        REFUSALS.withoutReference("context", x -> x.context(0, 0));
        REFUSALS.withReference("context", index, x -> x.context(0, -1));
        REFUSALS.always("told", argument, x -> x.told(-1));
        REFUSALS.always("state", argument, x -> x.state(-1, false));
        RefineRegions x = new RefineRegions();
        CHECKS.fine("keep", () -> x.keep(true));
        CHECKS.fine("wipe", () -> x.wipe());
        CHECKS.fine("byteAt", () -> x.byteAt(Integer.MIN_VALUE));
        CHECKS.fine("at", () -> x.at(Integer.MAX_VALUE, Integer.MIN_VALUE));
        CHECKS.fine("take", () -> x.take());
    }

    private static void firstNamedException() {
        REFUSALS.withoutReference("refer: no reference, no such pixel", x -> x.refer(-1, 0, true));
        REFUSALS.withoutReference("refer: no reference, no such pixel", x -> x.refer(0, 60, true));
        REFUSALS.withoutReference("offset: no reference, too far", x -> x.offset(21, 0));
        REFUSALS.withoutReference("offset: no reference, too far", x -> x.offset(0, -21));
        REFUSALS.withoutReference("context: no reference, no such pixel", x -> x.context(-1, 0));
        REFUSALS.withoutReference("context: no reference, no such pixel", x -> x.context(0, 40));
    }

    /** One after another, and then all that was there is still there. */
    private static void refusalsInARow() {
        REFUSALS.always("many refused calls", "IllegalArgumentException", x -> {
            Checks.outcome(() -> x.shape(0, 3, 1, true));
            Checks.outcome(() -> x.shape(3, 3, 2, true));
            Checks.outcome(() -> x.put(-1, 0, true));
            Checks.outcome(() -> x.reference(3, 61));
            Checks.outcome(() -> x.refer(60, 0, true));
            Checks.outcome(() -> x.offset(21, 21));
            Checks.outcome(() -> x.adaptive(0, 0, 0));
            Checks.outcome(() -> x.adaptive(2, -2, -2));
            Checks.outcome(() -> x.feed(9, -1L));
            Checks.outcome(() -> x.context(-1, -1));
            Checks.outcome(() -> x.told(6));
            x.state(8192, true);
        });
        RefineRegions x = new RefineRegions();
        x.feed(2, 0x0102L);
        CHECKS.badState("encode", () -> x.encode());
        CHECKS.badState("decode", () -> x.decode());
        CHECKS.same("bytes stay", Scene.bytes(x), "02 01");
        CHECKS.same("nothing was read", x.at(0, 0), NONE);
    }
}
