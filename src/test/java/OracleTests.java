import java.util.ArrayList;
import java.util.List;
import java.util.Random;

/** Runs of calls, chosen by a fixed seed, that class and oracle have to answer alike. */
public final class OracleTests {
    private static final int RUNS = 600;
    private static final int CALLS = 512;

    private static final Checks CHECKS = new Checks();

    private final Random random;
    private final String run;
    private final RefineRegions real = new RefineRegions();
    private final Oracle oracle = new Oracle();
    private int width = 8;
    private int height = 8;
    private int calls = 0;
    private boolean right = true;

    private OracleTests(String run, Random random) {
        this.run = run;
        this.random = random;
    }

    public static void main(String[] args) {
        oracleKnowsTheStandardSequence();
        Random seeds = new Random(20261115);
        for (int i = 0; i < RUNS; i++) {
            OracleTests test = new OracleTests("random run " + i, new Random(seeds.nextLong()));
            test.randomRun(i % 4);
        }
        for (int template = 0; template < 2; template++) {
            deepStates(template, false);
            deepStates(template, true);
        }
        CHECKS.end("OracleTests");
    }

    /** The coder's published example, so that the oracle itself stands on something. */
    private static void oracleKnowsTheStandardSequence() {
        String plain = "00020051000000C00352872AAAAAAAAA82C02000FCD79EF6BF7FED904F46A3BF";
        String coded = "84C73BFCE1A1430402200000410DBB86F4317FFF88FF37471ADB6ADFFFAC";
        Oracle.Writing writing = new Oracle.Writing(new Oracle.Memory());
        List<Integer> bits = new ArrayList<>();
        for (int i = 0; i < plain.length(); i++) {
            int digit = Character.digit(plain.charAt(i), 16);
            for (int b = 3; b >= 0; b--) {
                bits.add(digit >> b & 1);
            }
        }
        for (int bit : bits) {
            writing.bit(0, bit);
        }
        StringBuilder got = new StringBuilder();
        for (int value : writing.end()) {
            got.append(String.format("%02X", value));
        }
        CHECKS.same("the standard sequence", got.toString(), coded);
        Oracle.Reading reading = new Oracle.Reading(writing.bytes, new Oracle.Memory());
        for (int bit : bits) {
            CHECKS.same("the standard sequence read", reading.bit(0), bit);
        }
    }

    private void same(String call, String got, String due) {
        calls++;
        right &= CHECKS.same(run + ", call " + calls + ": " + call, got, due);
    }

    private boolean goesOn() {
        return right && calls < CALLS;
    }

    private void randomRun(int kind) {
        if (kind != 0) {
            shape(side(40), side(40), random.nextInt(2), random.nextInt(3) > 0);
            reference(side(60), side(60));
        }
        if (kind == 2) {
            scene();
        }
        if (kind == 3) {
            readReference();
        }
        while (goesOn()) {
            randomCall();
        }
    }

    /** A side that is small most of the time, so that calls meet borders and pictures fill up. */
    private int side(int most) {
        return random.nextInt(3) == 0 ? 1 + random.nextInt(most) : 1 + random.nextInt(12);
    }

    /** A number about a range, sometimes outside of it. */
    private int about(int least, int most) {
        switch (random.nextInt(12)) {
            case 0:
                return least - 1;
            case 1:
                return most + 1;
            case 2:
                return random.nextInt();
            case 3:
                return random.nextBoolean() ? least : most;
            default:
                return least + random.nextInt(most - least + 1);
        }
    }

    /** The same blot in picture and reference, with a little noise. */
    private void scene() {
        int left = random.nextInt(width);
        int top = random.nextInt(height);
        for (int i = 0; i < 160 && goesOn(); i++) {
            int x = left + i % 10;
            int y = top + i / 10;
            if (random.nextInt(12) > 0) {
                put(x, y, true);
            }
            if (random.nextInt(12) > 0) {
                refer(x, y, true);
            }
        }
    }

    /** What is read from noise and taken makes a richer reference than the calls could paint. */
    private void readReference() {
        for (int i = 0; i < 12; i++) {
            feed(8, noise());
        }
        decode();
        take();
    }

    private long noise() {
        long noise = random.nextLong();
        switch (random.nextInt(4)) {
            case 0:
                return noise | 0xFF00FF0000FFL;
            case 1:
                return noise & random.nextLong() & random.nextLong();
            default:
                return noise;
        }
    }

    private void randomCall() {
        int choice = random.nextInt(100);
        if (choice < 22) {
            put(about(0, width - 1), about(0, height - 1), random.nextInt(3) > 0);
        } else if (choice < 36) {
            refer(about(0, width - 1), about(0, height - 1), random.nextInt(3) > 0);
        } else if (choice < 40) {
            offset(about(-20, 20), random.nextBoolean() ? 0 : about(-20, 20));
        } else if (choice < 44) {
            adaptive(about(0, 1), about(-16, 15), random.nextBoolean() ? about(-16, 0) : about(-16, 15));
        } else if (choice < 50) {
            encode();
            look();
        } else if (choice < 56) {
            decode();
            look();
        } else if (choice < 60) {
            encode();
            decode();
        } else if (choice < 65) {
            feed(about(1, 8), noise());
        } else if (choice < 67) {
            same("wipe()", Checks.answer(() -> real.wipe()), Checks.answer(() -> oracle.wipe()));
        } else if (choice < 69) {
            take();
        } else if (choice < 72) {
            keep(random.nextBoolean());
        } else if (choice < 80) {
            context(about(0, width - 1), about(0, height - 1));
        } else if (choice < 85) {
            at(about(0, width - 1), about(0, height - 1));
        } else if (choice < 90) {
            told(about(0, 5));
        } else if (choice < 95) {
            state(about(0, 8191), random.nextBoolean());
        } else if (choice < 97) {
            byteAt(about(0, 20));
        } else if (choice < 98) {
            shape(about(1, 40), about(1, 40), about(0, 1), random.nextBoolean());
        } else if (choice < 99) {
            reference(about(1, 60), about(1, 60));
        } else {
            shape(side(40), side(40), random.nextInt(2), random.nextInt(3) > 0);
        }
    }

    /** What the last coding left, as far as a run has calls for it. */
    private void look() {
        for (int what = 0; what <= 5; what++) {
            told(what);
        }
        for (int i = 0; i < 6; i++) {
            int x = random.nextInt(width);
            int y = random.nextInt(height);
            at(x, y);
            byteAt(i == 0 ? random.nextInt(12) : i);
            state(i == 0 ? 16 : i == 1 ? 8 : i == 2 ? 0 : random.nextInt(8192), i % 2 == 0);
        }
        int used = someContext();
        state(used, true);
        state(used, false);
    }

    private int someContext() {
        try {
            return oracle.context(random.nextInt(width), random.nextInt(height));
        } catch (IllegalStateException e) {
            return 0;
        }
    }

    private void shape(int w, int h, int template, boolean typical) {
        String due = Checks.outcome(() -> oracle.shape(w, h, template, typical));
        if (due.equals("0")) {
            width = w;
            height = h;
        }
        same("shape(" + w + ", " + h + ", " + template + ", " + typical + ")",
                Checks.outcome(() -> real.shape(w, h, template, typical)), due);
    }

    private void put(int x, int y, boolean black) {
        same("put(" + x + ", " + y + ", " + black + ")",
                Checks.answer(() -> real.put(x, y, black)), Checks.answer(() -> oracle.put(x, y, black)));
    }

    private void reference(int w, int h) {
        same("reference(" + w + ", " + h + ")",
                Checks.outcome(() -> real.reference(w, h)), Checks.outcome(() -> oracle.reference(w, h)));
    }

    private void refer(int x, int y, boolean black) {
        same("refer(" + x + ", " + y + ", " + black + ")",
                Checks.answer(() -> real.refer(x, y, black)),
                Checks.answer(() -> oracle.refer(x, y, black)));
    }

    private void offset(int dx, int dy) {
        same("offset(" + dx + ", " + dy + ")",
                Checks.outcome(() -> real.offset(dx, dy)), Checks.outcome(() -> oracle.offset(dx, dy)));
    }

    private void adaptive(int k, int p, int q) {
        same("adaptive(" + k + ", " + p + ", " + q + ")",
                Checks.outcome(() -> real.adaptive(k, p, q)),
                Checks.outcome(() -> oracle.adaptive(k, p, q)));
    }

    private void keep(boolean on) {
        same("keep(" + on + ")",
                Checks.outcome(() -> real.keep(on)), Checks.outcome(() -> oracle.keep(on)));
    }

    private void encode() {
        same("encode()", Checks.answer(() -> real.encode()), Checks.answer(() -> oracle.encode()));
    }

    private void decode() {
        same("decode()", Checks.answer(() -> real.decode()), Checks.answer(() -> oracle.decode()));
    }

    private void take() {
        same("take()", Checks.answer(() -> real.take()), Checks.answer(() -> oracle.take()));
    }

    private void feed(int n, long bytes) {
        same("feed(" + n + ", " + bytes + ")",
                Checks.answer(() -> real.feed(n, bytes)), Checks.answer(() -> oracle.feed(n, bytes)));
    }

    private void byteAt(int i) {
        same("byteAt(" + i + ")",
                Checks.answer(() -> real.byteAt(i)), Checks.answer(() -> oracle.byteAt(i)));
    }

    private void at(int x, int y) {
        same("at(" + x + ", " + y + ")",
                Checks.answer(() -> real.at(x, y)), Checks.answer(() -> oracle.at(x, y)));
    }

    private void context(int x, int y) {
        same("context(" + x + ", " + y + ")",
                Checks.answer(() -> real.context(x, y)), Checks.answer(() -> oracle.context(x, y)));
    }

    private void told(int what) {
        same("told(" + what + ")",
                Checks.answer(() -> real.told(what)), Checks.answer(() -> oracle.told(what)));
    }

    private void state(int context, boolean decoding) {
        same("state(" + context + ", " + decoding + ")",
                Checks.answer(() -> real.state(context, decoding)),
                Checks.answer(() -> oracle.state(context, decoding)));
    }

    /** Kept states over many large pictures go down to the last ones of the table. */
    private static void deepStates(int template, boolean typical) {
        OracleTests test = new OracleTests("deep states " + template + typical, new Random(7));
        test.shape(40, 40, template, typical);
        test.reference(60, 60);
        test.offset(20, 20);
        for (int i = 0; i < 12; i++) {
            test.refer(i, i, true);
        }
        test.keep(true);
        while (test.goesOn()) {
            test.encode();
            test.decode();
            test.told(5);
            test.state(0, false);
            test.state(0, true);
            if (test.calls > 380) {
                test.put(test.random.nextInt(40), test.random.nextInt(40), true);
            }
        }
    }
}
