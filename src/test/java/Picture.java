import java.util.function.Supplier;
import java.util.function.ToIntFunction;

/**
 * All that can be asked of an object, as one text. An object is good for 512 calls, so a new one
 * is made by the same calls whenever some have been asked of one.
 */
final class Picture {
    private static final int QUESTIONS = 100;

    private final Supplier<GrownSnapshots> maker;
    private final StringBuilder text = new StringBuilder();
    private GrownSnapshots x;
    private int left = 0;

    private Picture(Supplier<GrownSnapshots> maker) {
        this.maker = maker;
    }

    static String of(Supplier<GrownSnapshots> maker) {
        Picture picture = new Picture(maker);
        picture.counts();
        picture.states();
        picture.marks();
        picture.parts();
        return picture.text.toString();
    }

    private int ask(ToIntFunction<GrownSnapshots> question) {
        if (left == 0) {
            x = maker.get();
            left = QUESTIONS;
        }
        left--;
        int answer = question.applyAsInt(x);
        text.append(answer).append(' ');
        return answer;
    }

    private void title(String what, int number) {
        text.append('\n').append(what).append(' ').append(number).append(": ");
    }

    private void counts() {
        for (int what = 0; what < 9; what++) {
            int asked = what;
            ask(y -> y.told(asked));
        }
    }

    private void states() {
        for (int task = 0; task < 4; task++) {
            int asked = task;
            title("state", task);
            ask(y -> y.chunk(asked, -1));
            for (int i = 0; i <= 300; i++) {
                int at = i;
                if (ask(y -> y.state(asked, at)) < 0) {
                    break;
                }
            }
        }
    }

    private void marks() {
        int made = ask(y -> y.told(5));
        for (int mark = 0; mark < made; mark++) {
            int asked = mark;
            title("mark", mark);
            ask(y -> y.usable(asked));
            ask(y -> y.same(asked, made - 1) ? 1 : 0);
            for (int what = 0; what < 7; what++) {
                int which = what;
                ask(y -> y.markTold(asked, which));
            }
            for (int task = 0; task < 4; task++) {
                list(mark, task);
            }
        }
    }

    private void list(int mark, int task) {
        for (int i = 0; i <= 75; i++) {
            int at = i;
            if (ask(y -> y.list(mark, task, at)) < 0) {
                break;
            }
        }
    }

    private void parts() {
        for (int part = 0; part < 120; part++) {
            int asked = part;
            title("part", part);
            if (ask(y -> y.partTold(asked, 0)) < 0) {
                continue;
            }
            for (int what = 1; what < 5; what++) {
                int which = what;
                ask(y -> y.partTold(asked, which));
            }
            for (int task = -1; task < 4; task++) {
                bytes(part, task);
            }
        }
    }

    private void bytes(int part, int task) {
        for (int i = 0; i <= 32; i++) {
            int at = i;
            if (ask(y -> y.partByte(part, task, at)) < 0) {
                break;
            }
        }
    }
}
