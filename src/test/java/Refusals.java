import java.util.ArrayList;
import java.util.List;
import java.util.function.Consumer;
import java.util.function.LongSupplier;

/**
 * "A call that throws changes nothing": the call is made on one of two objects that are else used
 * alike, and both have to answer alike whatever is asked of them from then on.
 */
final class Refusals {
    private static final int CALLS = 512;

    /** What has been done to an object before the refused call. */
    enum Setting {
        NEW(8, 8) {
            @Override
            void prepare(RefineRegions x) {
            }
        },
        WITHOUT_REFERENCE(5, 4) {
            @Override
            void prepare(RefineRegions x) {
                x.shape(5, 4, 0, true);
                Scene.draw(x, "#..#.", ".##..", ".....", "....#");
                x.adaptive(0, -2, 0);
                x.adaptive(1, 2, 1);
                x.keep(true);
                x.feed(3, 0x7F12A5L);
            }
        },
        TEMPLATE_0(5, 4) {
            @Override
            void prepare(RefineRegions x) {
                x.shape(5, 4, 0, true);
                Scene.draw(x, "#..#.", ".##..", ".....", "....#");
                Scene.refer(x, "##....", ".##...", "......", "...###", "...###");
                x.offset(1, -1);
                x.adaptive(0, -2, 0);
                x.adaptive(1, 2, 1);
                x.keep(true);
                x.encode();
                x.encode();
                x.decode();
                x.put(2, 2, true);
                x.feed(2, 0xFF11L);
            }
        },
        TEMPLATE_1(4, 5) {
            @Override
            void prepare(RefineRegions x) {
                x.shape(4, 5, 1, false);
                Scene.draw(x, "##..", "#.#.", "....", ".##.", "#...");
                Scene.refer(x, "#..", "##.", "...", ".#.");
                x.encode();
                x.decode();
                x.take();
                x.offset(-2, 3);
                x.put(0, 0, false);
                x.encode();
            }
        };

        private final int width;
        private final int height;

        Setting(int width, int height) {
            this.width = width;
            this.height = height;
        }

        abstract void prepare(RefineRegions x);

        boolean hasReference() {
            return this == TEMPLATE_0 || this == TEMPLATE_1;
        }
    }

    private final Checks checks;

    Refusals(Checks checks) {
        this.checks = checks;
    }

    /** The call has to throw that in each of these settings, and to change nothing. */
    void check(String what, String exception, Consumer<RefineRegions> call, Setting... settings) {
        for (Setting setting : settings) {
            RefineRegions twin = new RefineRegions();
            RefineRegions refused = new RefineRegions();
            setting.prepare(twin);
            setting.prepare(refused);
            String name = what + " in the setting " + setting;
            checks.same(name, Checks.outcome(() -> call.accept(refused)), "throws." + exception);
            compare(name, new Look(refused, setting).answers, new Look(twin, setting).answers);
        }
    }

    /** In every setting. */
    void always(String what, String exception, Consumer<RefineRegions> call) {
        check(what, exception, call, Setting.values());
    }

    void withReference(String what, String exception, Consumer<RefineRegions> call) {
        check(what, exception, call, Setting.TEMPLATE_0, Setting.TEMPLATE_1);
    }

    void withoutReference(String what, Consumer<RefineRegions> call) {
        check(what, "IllegalStateException", call, Setting.NEW, Setting.WITHOUT_REFERENCE);
    }

    private void compare(String name, List<String> got, List<String> due) {
        checks.same(name + ": answers afterwards", got.size(), due.size());
        for (int i = 0; i < due.size(); i++) {
            if (!checks.same(name + ", afterwards: call " + i, got.get(i), due.get(i))) {
                return;
            }
        }
    }

    /** Everything that an object can be asked; what is asked last changes it. */
    private static final class Look {
        private final RefineRegions x;
        private final int width;
        private final int height;
        final List<String> answers = new ArrayList<>();

        Look(RefineRegions x, Setting setting) {
            this.x = x;
            this.width = setting.width;
            this.height = setting.height;
            askOnly();
            codeAsItIs();
            repaint();
            codeWithAnotherReference();
            if (answers.size() > CALLS - 60) {
                throw new IllegalStateException("too many calls for one object");
            }
        }

        private void add(String name, LongSupplier call) {
            answers.add(name + " " + Checks.answer(call));
        }

        private void askOnly() {
            toldAll();
            bytes();
            contexts();
            for (int v = 0; v <= height; v++) {
                for (int u = 0; u <= width; u++) {
                    int right = u;
                    int down = v;
                    add("at " + u + ", " + v, () -> x.at(right, down));
                }
            }
            states();
        }

        private void toldAll() {
            for (int i = 0; i <= 5; i++) {
                int what = i;
                add("told " + i, () -> x.told(what));
            }
        }

        private void bytes() {
            for (int i = -1; i <= 8; i++) {
                int place = i;
                add("byteAt " + i, () -> x.byteAt(place));
            }
        }

        private void contexts() {
            for (int v = 0; v < height; v++) {
                for (int u = 0; u < width; u++) {
                    int right = u;
                    int down = v;
                    add("context " + u + ", " + v, () -> x.context(right, down));
                }
            }
        }

        private void states() {
            for (int i = 0; i < 13; i++) {
                int context = i == 0 ? 0 : 1 << i;
                add("state " + context + " of encode", () -> x.state(context, false));
                add("state " + context + " of decode", () -> x.state(context, true));
            }
        }

        private void codeAsItIs() {
            add("encode", () -> x.encode());
            bytes();
            add("state 0", () -> x.state(0, false));
            add("decode", () -> x.decode());
            toldAll();
        }

        private void repaint() {
            for (int v = 0; v <= 5; v++) {
                for (int u = 0; u <= 6; u++) {
                    int right = u;
                    int down = v;
                    add("refer " + u + ", " + v, () -> x.refer(right, down, true) ? 1 : 0);
                }
            }
            for (int v = 0; v <= height; v++) {
                for (int u = 0; u <= width; u++) {
                    int right = u;
                    int down = v;
                    add("put " + u + ", " + v, () -> x.put(right, down, (right * down) % 3 == 1) ? 1 : 0);
                }
            }
        }

        private void codeWithAnotherReference() {
            Scene.refer(x, "#..", ".##", "...");
            contexts();
            add("encode", () -> x.encode());
            bytes();
            add("decode", () -> x.decode());
            toldAll();
        }
    }
}
