import java.util.Arrays;
import java.util.function.Consumer;
import java.util.function.ToIntFunction;

/**
 * Two objects told the same, of which one is asked once more: what the other shows is what
 * "doing nothing" means. Neither is used for more than 512 calls.
 */
final class Twin {
    /** Far numbers; among them those by which a shift or a cut to a byte would wrap around to a near one. */
    private static final int[] FAR = {Integer.MIN_VALUE, Integer.MIN_VALUE + 1, -65536, -256, -64, -32,
        Integer.MAX_VALUE, 1 << 30, 65536, 256, 64, 33, 32};

    private Twin() {
    }

    /**
     * Four members of whom c voted today, five bills: p (a, c in it) and q (b in it) are kept,
     * r is empty, s is in force, t was flat; 8 acts to undo and one to redo; box 1 is full.
     */
    static void busy(AyeJars x) {
        Due.feed(x, "member a breath 10 keeps 1;member b breath 8 keeps 2;member c breath 5;member d breath 4;"
                + "bill p needs 7 opens 9;bill q needs 50 opens 9 shelf 2;bill r needs 3 opens 9;"
                + "bill s needs 5 opens 1;bill t needs 6 opens 1;fade loss + shaken;yawn 0;draw 3;");
        x.house();
        x.vote(0, 0);
        x.vote(1, 1);
        x.vote(2, 3);
        x.vote(3, 4);
        x.shake(0);
        x.day();
        x.vote(2, 0);
        x.image(1);
        x.shelve(1, 5);
        x.shake(1);
        x.undo();
        x.sniffed(1, 5, true);
        x.later(2);
        x.plan();
        x.feed(0x79617778, 0, 0, 0, 0);
    }

    /** The answer is due, and all that can be seen, undone, redone, gone back to is as without the call. */
    static void refused(String call, Consumer<AyeJars> told, ToIntFunction<AyeJars> tried, int due) {
        AyeJars x = new AyeJars();
        AyeJars twin = new AyeJars();
        told.accept(x);
        told.accept(twin);
        Due.is(call, tried.applyAsInt(x), due);
        alike(call, x, twin, true);
    }

    static void refused(String call, ToIntFunction<AyeJars> tried) {
        refused(call, Twin::busy, tried, AyeJars.NONE);
    }

    /** A question: nothing is done, but what lies there may be another. */
    static void asked(String call, Consumer<AyeJars> told, ToIntFunction<AyeJars> question, int due) {
        AyeJars x = new AyeJars();
        AyeJars twin = new AyeJars();
        told.accept(x);
        told.accept(twin);
        Due.is(call, question.applyAsInt(x), due);
        alike(call, x, twin, false);
    }

    /** Numbers that can't be where least .. most can: the nearest ones and far ones. */
    static int[] outside(int least, int most) {
        int[] all = Arrays.copyOf(FAR, FAR.length + 4);
        int count = 0;
        for (int n : FAR) {
            if (n < least || n > most) {
                all[count] = n;
                count++;
            }
        }
        all[count] = least - 1;
        all[count + 1] = least - 2;
        all[count + 2] = most + 1;
        all[count + 3] = most + 2;
        return Arrays.copyOf(all, count + 4);
    }

    private static void alike(String call, AyeJars x, AyeJars twin, boolean lying) {
        for (int what = 0; what <= (lying ? 13 : 12); what++) {
            Due.is(call + ", then about(" + what + ")", x.about(what), twin.about(what));
        }
        for (int i = 0; i < 7 && lying; i++) {
            Due.is(call + ", then lies(" + i + ")", x.lies(i), twin.lies(i));
        }
        for (int k = 0; k < 3; k++) {
            Due.is(call + ", then fits(" + k + ")", x.fits(k), twin.fits(k));
        }
        for (int what = 0; what < 2; what++) {
            Due.is(call + ", then fault(" + what + ")", x.fault(what), twin.fault(what));
        }
        state(call, x, twin, 11);
        Due.is(call + ", then undo()", x.undo(), twin.undo());
        state(call + ", undo()", x, twin, 6);
        Due.is(call + ", then redo()", x.redo(), twin.redo());
        Due.is(call + ", then redo()", x.redo(), twin.redo());
        state(call + ", undo(), redo(), redo()", x, twin, 6);
        for (int box = 0; box < 3; box++) {
            Due.is(call + ", then back(" + box + ")", x.back(box), twin.back(box));
        }
        state(call + ", back", x, twin, 6);
    }

    private static void state(String call, AyeJars x, AyeJars twin, int columns) {
        for (int what = 2; what <= 8; what++) {
            Due.is(call + ", then about(" + what + ")", x.about(what), twin.about(what));
        }
        for (int m = 0; m < twin.about(0); m++) {
            for (int what = 2; what < 4; what++) {
                Due.is(call + ", then member(" + m + ", " + what + ")", x.member(m, what), twin.member(m, what));
            }
        }
        for (int b = 0; b < twin.about(1); b++) {
            for (int what = 0; what < columns; what++) {
                Due.is(call + ", then bill(" + b + ", " + what + ")", x.bill(b, what), twin.bill(b, what));
            }
        }
    }
}
