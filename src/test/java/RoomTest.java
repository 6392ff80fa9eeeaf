import com.sun.management.ThreadMXBean;
import java.lang.management.ManagementFactory;

/** All rows are made by the constructor: no call makes anything, so that a run stays in its room. */
public final class RoomTest {
    private static final String LARGE = "member a breath 1 keeps 3;member b breath 20 keeps 1;member c breath 3 keeps 2;"
            + "member d breath 14;member e breath 5 keeps 9;member f breath 6;bill p needs 6 opens 60;bill q needs 5 opens 50;"
            + "bill r needs 4 opens 40;bill s needs 3 opens 59;bill t needs 30 opens 60;fade volume % (2 + shelf) + (day % 3 = 1) * loss - shaken;"
            + "yawn 10;draw 5;";

    public static void main(String[] args) {
        Due.topic("room");
        ThreadMXBean bean = (ThreadMXBean) ManagementFactory.getThreadMXBean();
        long thread = Thread.currentThread().getId();
        AyeJars warm = new AyeJars();
        calls(warm);
        bean.getThreadAllocatedBytes(thread);
        AyeJars x = new AyeJars();
        long before = bean.getThreadAllocatedBytes(thread);
        calls(x);
        long taken = bean.getThreadAllocatedBytes(thread) - before;
        Due.is("bytes made by calls: " + taken, taken < 4096, true);
        before = bean.getThreadAllocatedBytes(thread);
        new AyeJars();
        taken = bean.getThreadAllocatedBytes(thread) - before;
        Due.is("bytes of a new object: " + taken, taken < 60000, true);
        Due.close("RoomTest");
    }

    private static void calls(AyeJars x) {
        for (int i = 0; i < LARGE.length(); i += 20) {
            x.feed(four(i), four(i + 4), four(i + 8), four(i + 12), four(i + 16));
        }
        x.house();
        for (int round = 0; round < 8; round++) {
            for (int n = 0; n < 6; n++) {
                acts(x, n, round);
                questions(x, n);
            }
            x.day();
        }
    }

    private static int four(int at) {
        int n = 0;
        for (int i = at; i < at + 4; i++) {
            n = n << 8 | (i < LARGE.length() ? LARGE.charAt(i) : 32);
        }
        return n;
    }

    private static void acts(AyeJars x, int n, int round) {
        x.vote(n, (n + round) % 5);
        x.shake(n);
        x.shelve(n, round);
        x.undo();
        x.redo();
        x.join(n, round);
        x.sniffed(n, 20, n > 2);
        x.untell(n);
        x.later(1);
        x.image(n);
        x.back(round);
    }

    private static void questions(AyeJars x, int n) {
        x.fault(0);
        x.end(0);
        x.member(n, 3);
        x.bill(n, 10);
        x.will(n, 60);
        x.dull(n);
        x.pass();
        x.muster(n, 1);
        x.latest(n, n);
        x.plan();
        x.power(n, n, 0);
        x.best(n);
        x.joint(n, 0);
        x.law(n);
        x.odds(n, 15, 0);
        x.mean(n, 7, 1);
        x.ripe(n, 5, 1);
        x.queue(n);
        x.spoil(n);
        x.sabotage(3);
        x.wasted();
        x.richest();
        x.matches();
        x.brittle();
        x.longest(n);
        x.lies(n);
        x.fits(n);
        x.sure(n, 3);
        x.ask(0, 3);
        x.about(n);
    }
}
