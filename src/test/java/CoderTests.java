import java.util.ArrayList;
import java.util.Arrays;
import java.util.List;

/**
 * The sentences of 'Terms' about the coder, each by itself. The bytes and
 * pictures that are due were worked out apart from the class, and each scene was chosen, as small as
 * it could be found, because it comes out otherwise when the sentence is broken.
 */
public final class CoderTests {
    private static final String TERMS = "Terms";
    private static final Checks CHECKS = new Checks();

    public static void main(String[] args) {
        all(Sentences.running(CHECKS));
        CHECKS.end("CoderTests");
    }

    static void all(Sentences sentences) {
        states(sentences);
        bitsWritten(sentences);
        bytesWritten(sentences);
        bytesRead(sentences);
        bitsRead(sentences);
    }

    private static void states(Sentences sentences) {
        sentences.test(TERMS, "THE CODER has for each context", CoderTests::eachContextHasItsOwn);
        sentences.test(TERMS, "a STATE, 0 to 46, and the bit that is LIKELY, both 0 at first",
                CoderTests::statesAtFirst);
        sentences.test(TERMS, "Of states 0 to 46 there are four numbers: q", CoderTests::sharesOfStates);
        sentences.test(TERMS, "the next state when the bit is the likely one, that when it isn't, and whether"
                + " the likely one turns then", CoderTests::everyStateGoesOn);
    }

    private static void bitsWritten(Sentences sentences) {
        sentences.test(TERMS, "A is 32768, C 0, T 12 at first", CoderTests::writingBeginsAnew);
        sentences.test(TERMS, "no byte is there (the last one counts as 0)", CoderTests::noByteIsThere);
        sentences.test(TERMS, "A bit: A less q. If it is likely: if A is 32768 at least, C more q, and that's all",
                CoderTests::likelyAndNoMore);
        sentences.test(TERMS, "else, if A is below q, A is q, else C more q; the next state; RENEWED",
                CoderTests::likelyAndRenewed);
        sentences.test(TERMS, "If it isn't: if A is below q, C more q, else A is q", CoderTests::notLikely);
        sentences.test(TERMS, "the likely one turns, if the state says so; the next state",
                CoderTests::theLikelyOneTurns);
        sentences.test(TERMS, "RENEWED: A and C are doubled, T is 1 less, and, when that is 0, a byte goes out",
                CoderTests::bytesGoOutInTime);
        sentences.test(TERMS, "again as long as A is below 32768", CoderTests::renewedUntilAIsLarge);
    }

    private static void bytesWritten(Sentences sentences) {
        sentences.test(TERMS, "A BYTE GOES OUT: if the last one is 255: a byte C by 2^20, C modulo 2^20, T 7",
                CoderTests::behind255);
        sentences.test(TERMS, "Else, if C is 2^27 or more: the last byte is 1 more", CoderTests::carry);
        sentences.test(TERMS, "(where none is there it never comes to that)", CoderTests::noCarryAtFirst);
        sentences.test(TERMS, "C is 2^27 less; if that made it 255, as before", CoderTests::carryMakes255);
        sentences.test(TERMS, "In all other cases: a byte C by 2^19, C modulo 2^19, T 8",
                CoderTests::plainBytes);
        sentences.test(TERMS, "AT THE END: with U, C and A together: the 16 lowest bits of C become 1; if C is U at"
                + " least then, it is 32768 less", CoderTests::lastBitsOfC);
        sentences.test(TERMS, "C times 2^T, a byte goes out; C times 2^T (as T is then), a byte goes out",
                CoderTests::lastTwoBytes);
        sentences.test(TERMS, "then, if the last byte isn't 255, a byte 255; a byte 172", CoderTests::theMark);
    }

    private static void bytesRead(Sentences sentences) {
        sentences.test(TERMS, "Bytes behind the last one count as 255", CoderTests::behindTheLast);
        sentences.test(TERMS, "B is the place 0", CoderTests::readingBeginsAnew);
        sentences.test(TERMS, "C is byte 0 times 2^16, a byte COMES IN, C times 2^7, T 7 less, A 32768",
                CoderTests::readingBegins);
        sentences.test(TERMS, "A BYTE COMES IN: if the byte at B is 255: if the next one is above 143, C is 65280"
                + " more, T 8", CoderTests::beforeAMark);
        sentences.test(TERMS, "else B is 1 more, C is that byte times 2^9 more, T 7", CoderTests::read255);
        sentences.test(TERMS, "If it isn't: B is 1 more, C is that byte times 2^8 more, T 8",
                CoderTests::readOthers);
    }

    private static void bitsRead(Sentences sentences) {
        sentences.test(TERMS, "A bit: A less q. If C is below q times 2^16", CoderTests::lowerPart);
        sentences.test(TERMS,
                "if A is below q, it is the likely one, and A is q, else the other one, and A is q",
                CoderTests::lowerPartExchanged);
        sentences.test(TERMS, "Else C is q times 2^16 less; if A is 32768 at least it is the likely one, and that's"
                + " all", CoderTests::upperPartAndNoMore);
        sentences.test(TERMS, "if A is below q, it is the other one, else the likely one",
                CoderTests::upperPartExchanged);
        sentences.test(TERMS, "The likely one turns, and the next state comes, as in writing",
                CoderTests::readingFollowsWriting);
        sentences.test(TERMS, "then: when T is 0 a byte comes in; A and C are doubled, T is 1 less; again as long as"
                + " A is below 32768", CoderTests::readUntilAIsLarge);
        sentences.test(TERMS, "C is kept to 32 bits", CoderTests::cIsKeptTo32Bits);
    }

    private static void coded(String what, String due, String[] picture, String... reference) {
        RefineRegions x = Scene.of(0, false, picture, reference);
        x.encode();
        CHECKS.same(what, Scene.bytes(x), due);
        x.decode();
        CHECKS.same(what + ": read back", Scene.found(x, picture[0].length(), picture.length),
                String.join(" ", picture));
    }

    /** The pixel of the reference says in which of two contexts the bit is. */
    private static void eachContextHasItsOwn() {
        RefineRegions x = Scene.white(1, 1, 0, false);
        x.keep(true);
        bitOfTwoContexts(x, false, true, 3, 0);
        bitOfTwoContexts(x, true, false, 3, 2);
        bitOfTwoContexts(x, true, false, 3, 4);
        bitOfTwoContexts(x, false, false, 13, 4);
        bitOfTwoContexts(x, true, true, 13, 18);
    }

    private static void bitOfTwoContexts(RefineRegions x, boolean other, boolean black, int due, int dueOther) {
        x.refer(0, 0, other);
        x.put(0, 0, black);
        x.encode();
        x.decode();
        CHECKS.same("read back", x.at(0, 0), black ? 1 : 0);
        CHECKS.same("the one context in writing", x.state(0, false), due);
        CHECKS.same("the one context in reading", x.state(0, true), due);
        CHECKS.same("the other context in writing", x.state(256, false), dueOther);
        CHECKS.same("the other context in reading", x.state(256, true), dueOther);
    }

    private static void statesAtFirst() {
        for (int from = 0; from < 8192; from += 256) {
            RefineRegions x = new RefineRegions();
            for (int context = from; context < from + 256; context++) {
                CHECKS.same("state of encode", x.state(context, false), 0);
                CHECKS.same("state of decode", x.state(context, true), 0);
            }
        }
    }

    /** A picture of one pixel is one bit, and from A = 32768 on each bit leads to the next state. */
    private static void everyStateGoesOn() {
        List<List<Boolean>> ways = waysToStates();
        for (int state = 0; state < 46; state++) {
            CHECKS.holds("there is a way to state " + state, ways.get(state) != null);
            RefineRegions x = inState(ways.get(state));
            goOn(x, true);
            RefineRegions y = inState(ways.get(state));
            goOn(y, false);
        }
    }

    /** Where A is 32768, the bytes of twice q are just those from which on C isn't below q any more. */
    private static void sharesOfStates() {
        Document document = new Document();
        if (document.isThere()) {
            CHECKS.same("the table", Arrays.deepToString(Oracle.TABLE), Arrays.deepToString(document.table()));
        }
        List<List<Boolean>> ways = waysToStates();
        for (int state = 0; state < 46; state++) {
            int q = Oracle.TABLE[state][0];
            boolean exchanged = 32768 - q < q;
            RefineRegions x = inState(ways.get(state));
            int likely = x.state(0, true) & 1;
            CHECKS.same("C is q, state " + state, readTwoBytes(x, 2 * q), exchanged ? 1 - likely : likely);
            RefineRegions y = inState(ways.get(state));
            CHECKS.same("C is less, state " + state, readTwoBytes(y, 2 * q - 1), exchanged ? likely : 1 - likely);
        }
    }

    private static int readTwoBytes(RefineRegions x, int both) {
        x.wipe();
        x.feed(2, both >> 8 | (both & 255) << 8);
        x.decode();
        return x.at(0, 0);
    }

    /** For each state the shortest way to it: whether the bits are the likely ones. */
    private static List<List<Boolean>> waysToStates() {
        List<List<Boolean>> ways = new ArrayList<>();
        for (int i = 0; i < 47; i++) {
            ways.add(null);
        }
        ways.set(0, new ArrayList<>());
        List<Integer> reached = new ArrayList<>(List.of(0));
        for (int i = 0; i < reached.size(); i++) {
            int state = reached.get(i);
            for (boolean likely : new boolean[] {true, false}) {
                int next = Oracle.TABLE[state][likely ? 1 : 2];
                if (ways.get(next) == null) {
                    List<Boolean> way = new ArrayList<>(ways.get(state));
                    way.add(likely);
                    ways.set(next, way);
                    reached.add(next);
                }
            }
        }
        return ways;
    }

    private static RefineRegions inState(List<Boolean> way) {
        RefineRegions x = Scene.white(1, 1, 0, false);
        x.keep(true);
        for (boolean isLikely : way) {
            goOn(x, isLikely);
        }
        return x;
    }

    private static void goOn(RefineRegions x, boolean isLikely) {
        int state = x.state(0, false) / 2;
        int likely = x.state(0, false) % 2;
        int bit = isLikely ? likely : 1 - likely;
        x.put(0, 0, bit == 1);
        x.encode();
        x.decode();
        CHECKS.same("the bit of state " + state, x.at(0, 0), bit);
        int next = 2 * Oracle.TABLE[state][isLikely ? 1 : 2]
                + (isLikely ? likely : likely ^ Oracle.TABLE[state][3]);
        CHECKS.same("the next state in writing", x.state(0, false), next);
        CHECKS.same("the next state in reading", x.state(0, true), next);
    }

    private static void writingBeginsAnew() {
        RefineRegions x = Scene.of(0, false, Scene.rows("###.#", ".##.#", "#..##", "...#."),
                Scene.rows(".....", ".....", ".....", "....."));
        for (int i = 0; i < 3; i++) {
            x.encode();
            CHECKS.same("the same picture " + i, Scene.bytes(x), "E5 05 EA 7F FF AC");
        }
        coded("A is no less at first", "FF 7F FF AC", Scene.rows("#"), ".");
        coded("A is no more at first", "FF 7F FF AC", Scene.rows("####", "..#.", "####", ".###"), ".");
        x.shape(1, 1, 0, false);
        x.keep(true);
        x.encode();
        CHECKS.same("after another picture", Scene.bytes(x), "7F FF AC");
    }

    private static void noByteIsThere() {
        RefineRegions x = Scene.of(0, false, Scene.rows("###.#", ".##.#", "#..##", "...#."), Scene.rows("."));
        x.encode();
        String alone = Scene.bytes(x);
        x.wipe();
        x.feed(1, 255L);
        x.encode();
        CHECKS.same("where the last byte was 255", Scene.bytes(x), alone);
        x.feed(8, -1L);
        x.encode();
        CHECKS.same("where 255s were behind it", Scene.bytes(x), alone);
        x.wipe();
        x.encode();
        CHECKS.same("where no byte was", Scene.bytes(x), alone);
    }

    private static void likelyAndNoMore() {
        coded("A is 32768 just", "E5 4F FF AC", Scene.rows("###.#.####"), "#####.####");
        coded("the state stays then", "47 FF AC", Scene.rows("..", ".#"), "..", "..");
        for (int bits = 1; bits <= 40; bits++) {
            RefineRegions x = Scene.white(bits, 1, 0, false);
            x.encode();
            CHECKS.same(bits + " likely bits", x.state(0, false), stateAfterLikelyBits(bits));
        }
    }

    /** A alone tells when a likely bit leads to the next state. */
    private static int stateAfterLikelyBits(int bits) {
        int a = 32768;
        int state = 0;
        for (int i = 0; i < bits; i++) {
            int q = Oracle.TABLE[state][0];
            a -= q;
            if (a < 32768) {
                a = Math.max(a, q);
                state = Oracle.TABLE[state][1];
            }
            while (a < 32768) {
                a *= 2;
            }
        }
        return 2 * state;
    }

    private static void likelyAndRenewed() {
        coded("A is q just", "7F FF AC", Scene.rows(".."), "##");
        coded("A is below q", "7F FF AC", Scene.rows("."), ".");
    }

    private static void notLikely() {
        coded("A is q just", "3F FF AC", Scene.rows(".#"), ".#");
        coded("A is below q", "FF 7F FF AC", Scene.rows("#"), ".");
    }

    private static void theLikelyOneTurns() {
        RefineRegions x = Scene.white(1, 1, 0, false);
        x.put(0, 0, true);
        x.encode();
        CHECKS.same("in state 0 it turns", x.state(0, false), 2 * 1 + 1);
        x.keep(true);
        x.put(0, 0, false);
        x.encode();
        CHECKS.same("in state 1 it doesn't", x.state(0, false), 2 * 6 + 1);
        x.encode();
        CHECKS.same("in state 6 it turns", x.state(0, false), 2 * 6);
    }

    private static void renewedUntilAIsLarge() {
        coded("A comes to 32768 just", "BA 4F FF AC", Scene.rows("#.####.###"), "#.#.##.#.#");
    }

    /** How often A is doubled tells how many bytes go out: one after 12 times, then after 8 or 7. */
    private static void bytesGoOutInTime() {
        for (int width = 1; width <= 40; width++) {
            bytesAreAsMany(width, 1, 3 * width);
        }
        for (int i = 0; i < 40; i++) {
            bytesAreAsMany(12, 1 + i % 12, i);
        }
    }

    private static void bytesAreAsMany(int width, int height, int kind) {
        RefineRegions x = Scene.white(width, height, 0, false);
        for (int i = 0; i < width * height; i++) {
            x.put(i % width, i / width, (i * i * 7 + i * kind + kind) % 11 < 5);
        }
        x.encode();
        int left = doublings(x, width, height);
        int sent = 0;
        int t = 12;
        while (left >= t) {
            left -= t;
            t = x.byteAt(sent - 1) == 255 ? 7 : 8;
            sent++;
        }
        int due = sent + 2 + (x.byteAt(sent + 1) == 255 ? 1 : 2);
        CHECKS.same("bytes of " + width + " by " + height + ", kind " + kind, x.told(0), due);
    }

    /** A by itself: C has no say in how often it is doubled. */
    private static int doublings(RefineRegions x, int width, int height) {
        int[] states = new int[8192];
        int[] likely = new int[8192];
        int a = 32768;
        int doublings = 0;
        x.decode();
        for (int i = 0; i < width * height; i++) {
            int context = x.context(i % width, i / width);
            int[] row = Oracle.TABLE[states[context]];
            boolean isLikely = x.at(i % width, i / width) == likely[context];
            a -= row[0];
            if (isLikely && a >= 32768) {
                continue;
            }
            a = isLikely ? Math.max(a, row[0]) : Math.min(a, row[0]);
            states[context] = row[isLikely ? 1 : 2];
            likely[context] ^= isLikely ? 0 : row[3];
            while (a < 32768) {
                a *= 2;
                doublings++;
            }
        }
        return doublings;
    }

    private static void behind255() {
        coded("255 is the first byte", "FF 7F FF AC", Scene.rows("#"), ".");
        coded("T is 7 then", "FF 4F FF AC", Scene.rows("#####.##."), ".###.#.##");
        coded("C keeps its 20 bits", "FF 2F FF AC", Scene.rows("#####.##."), "...##.#..");
        coded("C is above 2^27 there", "39 FF 85 FF AC", Scene.rows("..#.#", "#....", ".####", "#...#"),
                ".....", ".....", ".....", ".....");
    }

    private static void carry() {
        coded("C is 2^27 just", "D7 00 07 FF AC",
                Scene.rows("#..", "...", "...", "...", "#..", "...", "..#"),
                "#..", "...", "##.", "..#", "#..", "...", "...");
        coded("C is more", "E5 05 EA 7F FF AC", Scene.rows("###.#", ".##.#", "#..##", "...#."),
                ".....", ".....", ".....", ".....");
        coded("C is more at the end", "B2 07 FF AC", Scene.rows("#..##", "#...."), ".....", ".....");
    }

    /** All pictures of 3 by 3: a carry where no byte is would be lost, and not be read back. */
    private static void noCarryAtFirst() {
        for (int picture = 0; picture < 512; picture++) {
            RefineRegions x = Scene.white(3, 3, 0, false);
            for (int i = 0; i < 9; i++) {
                x.put(i % 3, i / 3, (picture >> i & 1) == 1);
            }
            x.encode();
            for (int i = 0; i < x.told(0); i++) {
                CHECKS.holds("a byte of picture " + picture, x.byteAt(i) >= 0 && x.byteAt(i) <= 255);
            }
            CHECKS.same("black ones of picture " + picture, x.decode(), Integer.bitCount(picture));
            CHECKS.same("differences of picture " + picture, x.told(5), 0);
        }
    }

    private static void carryMakes255() {
        coded("at the end", "FF 07 FF AC", Scene.rows("####", "#...", ".##."), ".##.", "#.#.", "..##");
        coded("before", "FF 03 E3 FF AC", Scene.rows("#####", "....#", "#.###", "####."),
                "#...#", "#...#", ".....", "..#.#");
    }

    private static void plainBytes() {
        coded("neither 255 nor a carry", "08 B2 6D 80 7F FF AC",
                Scene.rows(".####.", ".##..#", "..#.#.", "######"), "......", "......", "......", "......");
    }

    /** That C is U just cannot be: U is even always, and C is odd then. */
    private static void lastBitsOfC() {
        coded("C is above U", "7F FF AC", Scene.rows("."), ".");
        coded("C is below U", "9F FF AC",
                Scene.rows("........", "........", "........", "........",
                        "........", "........", "........", "........"), ".");
        coded("C is below U", "B7 FF AC", Scene.rows("#..", "..."), "...", "...");
        coded("not fewer bits of C", "FF 7F FF AC", Scene.rows("#"), ".");
        coded("not more bits of C", "E5 05 EA 7F FF AC", Scene.rows("###.#", ".##.#", "#..##", "...#."),
                ".....", ".....", ".....", ".....");
    }

    private static void lastTwoBytes() {
        coded("T is 7 for the second", "FF 4F FF AC", Scene.rows("#####.##."), ".###.#.##");
        coded("T is 8 for the second", "E5 05 EA 7F FF AC", Scene.rows("###.#", ".##.#", "#..##", "...#."),
                ".....", ".....", ".....", ".....");
    }

    private static void theMark() {
        coded("the last byte is 255 already", "7F FF AC", Scene.rows("."), ".");
        coded("the last byte is another", "FF 7F FF AC", Scene.rows("#"), ".");
        RefineRegions x = Scene.of(0, false, Scene.rows("#"), Scene.rows("."));
        CHECKS.same("both count", x.encode(), 4);
        x.put(0, 0, false);
        CHECKS.same("the one counts", x.encode(), 3);
    }

    private static void behindTheLast() {
        CHECKS.same("behind 172", Scene.read(1, 1, "AC"), "# B 1");
        CHECKS.same("behind 2", Scene.read(2, 2, "02"), ".# ## B 1");
        RefineRegions x = Scene.white(8, 8, 0, false);
        x.decode();
        String none = Scene.found(x, 8, 8);
        CHECKS.same("B where no byte is", x.told(4), 0);
        x.feed(8, -1L);
        x.decode();
        CHECKS.same("eight of 255 are as none", Scene.found(x, 8, 8), none);
        RefineRegions y = Scene.white(8, 8, 0, false);
        y.feed(1, 0x12L);
        y.decode();
        String one = Scene.found(y, 8, 8);
        CHECKS.same("B stays behind the last byte", y.told(4), 1);
        y.feed(3, 0xFFFFFFL);
        y.decode();
        CHECKS.same("255s behind one are as none", Scene.found(y, 8, 8), one);
        CHECKS.same("B is where it was", y.told(4), 1);
    }

    private static void readingBeginsAnew() {
        RefineRegions x = Scene.white(6, 2, 0, false);
        Scene.feed(x, "44 BC 8F 90 8F FF 8F");
        for (int i = 0; i < 3; i++) {
            x.decode();
            CHECKS.same("the same bytes " + i, Scene.found(x, 6, 2), "...### ..#.##");
            CHECKS.same("B of the same bytes " + i, x.told(4), 3);
        }
        x.wipe();
        x.decode();
        CHECKS.same("B where no byte is", x.told(4), 0);
    }

    private static void readingBegins() {
        // C is 22017 times 2^16, the q of state 0, or a byte's last bit less; T is 1.
        CHECKS.same("C is q: A is doubled twice", Scene.read(1, 1, "AC 02 00"), "# B 2");
        CHECKS.same("C is less: A is doubled once", Scene.read(1, 1, "AC 01 00"), ". B 1");
        CHECKS.same("behind 255, T is 0", Scene.read(1, 1, "FF 00 FF 8F"), "# B 2");
        CHECKS.same("A is no less than 32768", Scene.read(3, 5, "FF 7B"), "### .#. .## .#. #.# B 2");
        CHECKS.same("A is no more than 32768", Scene.read(3, 5, "FF 75"), "### .#. .## .#. ..# B 2");
    }

    private static void beforeAMark() {
        CHECKS.same("144 is above", Scene.read(8, 1, "FF 90 90 90 90 16 6C 91"), "######## B 0");
        CHECKS.same("65280 more", Scene.read(3, 3, "FF 90 F8 4E 90 90"), "### .#. .## B 0");
        CHECKS.same("not one more", Scene.read(8, 3, "FF FE 10 25"), "######## .####### .####### B 0");
        CHECKS.same("not one less", Scene.read(23, 1, "BB"), "#.##..####.##.#..###.#. B 1");
        CHECKS.same("T is 8", Scene.read(5, 3, "13"), ".#### .###. ##.## B 1");
        CHECKS.same("B stays", Scene.read(5, 4, "BB FF F1 8F 7A"), "#.##. ###.. .#... ###.# B 1");
    }

    private static void read255() {
        CHECKS.same("143 isn't above", Scene.read(8, 1, "FF 8F 8F 90"), "#######. B 3");
        CHECKS.same("times 2^9", Scene.read(6, 1, "03 FF 8F C0 74"), ".##... B 2");
        CHECKS.same("T is 7", Scene.read(8, 1, "FF 81 C1 8F FF"), "#######. B 3");
    }

    private static void readOthers() {
        CHECKS.same("254 before 144", Scene.read(8, 2, "FE 90 12 34"), "######## .###.... B 3");
        CHECKS.same("254 before 143", Scene.read(8, 2, "FE 8F 12 34"), "######## .###.... B 3");
        CHECKS.same("0 before 255", Scene.read(8, 2, "00 FF 00 FF"), ".##.#.## ....#... B 3");
        CHECKS.same("0s", Scene.read(8, 2, "00 00 00 00"), ".##.#..# #######. B 4");
    }

    private static void lowerPart() {
        // 172 and 2 make C 22017 times 2^16, which is the q of state 0.
        CHECKS.same("C is q times 2^16 just", Scene.read(1, 1, "AC 02"), "# B 2");
        CHECKS.same("C is less", Scene.read(1, 1, "AC 01"), ". B 1");
        CHECKS.same("C is it later", Scene.read(3, 1, "34 01"), "..# B 2");
    }

    private static void lowerPartExchanged() {
        CHECKS.same("A is q just", Scene.read(2, 2, "02"), ".# ## B 1");
        CHECKS.same("A is below q", Scene.read(1, 1, "00"), ". B 1");
    }

    private static void upperPartAndNoMore() {
        CHECKS.same("A is 32768 just", Scene.read(6, 2, "44 BC 8F 90 8F FF 8F"), "...### ..#.## B 3");
    }

    private static void upperPartExchanged() {
        CHECKS.same("A is q just", Scene.read(2, 2, "C9 DC A6 90"), "#. .# B 2");
        CHECKS.same("A is below q", Scene.read(1, 1, "FF"), "# B 0");
    }

    private static void readingFollowsWriting() {
        String[] picture = Scene.rows("#####", "....#", "#.###", "####.");
        RefineRegions x = Scene.of(0, false, picture, Scene.rows("#...#", "#...#", ".....", "..#.#"));
        x.encode();
        x.decode();
        int changed = 0;
        for (int i = 0; i < 20; i++) {
            int context = x.context(i % 5, i / 5);
            CHECKS.same("the same state of decode", x.state(context, true), x.state(context, false));
            changed += x.state(context, true) > 0 ? 1 : 0;
        }
        CHECKS.holds("most states have changed", changed > 10);
    }

    private static void readUntilAIsLarge() {
        CHECKS.same("A comes to 32768 just", Scene.read(11, 1, "1E 0D 8F"), ".#.#.#.#..# B 2");
        asOftenAsCanBe();
    }

    /** In state 45 q is 1: a bit that is not the likely one leaves A 1, to be doubled 15 times. */
    private static void asOftenAsCanBe() {
        RefineRegions x = Scene.white(12, 1, 0, false);
        Oracle oracle = new Oracle();
        oracle.shape(12, 1, 0, false);
        oracle.reference(1, 1);
        x.keep(true);
        oracle.keep(true);
        for (int i = 0; i < 16; i++) {
            x.encode();
            x.decode();
            oracle.encode();
            oracle.decode();
        }
        CHECKS.same("state 45 of encode", x.state(0, false), 2 * 45);
        CHECKS.same("state 45 of decode", x.state(0, true), 2 * 45);
        String picture = "#.##.#.#####";
        for (int i = 0; i < 12; i++) {
            x.put(i, 0, picture.charAt(i) == '#');
            oracle.put(i, 0, picture.charAt(i) == '#');
        }
        CHECKS.same("how many bytes", x.encode(), oracle.encode());
        for (int i = 0; i < oracle.told(0); i++) {
            CHECKS.same("byte " + i, x.byteAt(i), oracle.byteAt(i));
        }
        CHECKS.same("black ones", x.decode(), oracle.decode());
        CHECKS.same("what was read", Scene.found(x, 12, 1), picture);
        CHECKS.same("B", x.told(4), oracle.told(4));
        CHECKS.same("the state", x.state(0, true), oracle.state(0, true));
    }

    private static void cIsKeptTo32Bits() {
        CHECKS.same("C comes above 32 bits", Scene.read(8, 1, "FF 87"), "#######. B 2");
        CHECKS.same("the highest of them is no sign", Scene.read(1, 1, "FF 8F FF AE 86 90 FD"), "# B 2");
    }
}
