/**
 * Each sentence of the document that names a boundary case of what is sniffed (promises 37 to 42).
 * The sentence stands ahead of its test.
 */
public final class EdgeNoseTest {
    private static final String THREE = "member a breath 10 keeps 1;member b breath 8 keeps 2;member c breath 5;";

    public static void main(String[] args) {
        sniffedRefused();
        sniffedLimits();
        thirtyAtMost();
        untellRefused();
        laterRefused();
        laterLimits();
        asKnownAt();
        untoldAtTheSame();
        timeOverHouses();
        fitsOfAll();
        atLeastOrNot();
        strangeJar();
        sureEdges();
        askEdges();
        Due.close("EdgeNoseTest");
    }

    /** "NONE, doing nothing, if one can't be, or there are 30." */
    private static void sniffedRefused() {
        Due.topic("sniffed");
        for (int age : Twin.outside(0, 20)) {
            Twin.refused("age " + age, x -> x.sniffed(age, 0, true));
            Twin.refused("age " + age, x -> x.sniffed(age, 999, false));
        }
        for (int volume : Twin.outside(0, 999)) {
            if (volume < 0 || volume > 999) {
                Twin.refused("volume " + volume, x -> x.sniffed(0, volume, true));
                Twin.refused("volume " + volume, x -> x.sniffed(20, volume, false));
            }
        }
        Twin.refused("there are 30", x -> sniffMany(x, 30), x -> x.sniffed(0, 999, true), -1);
        Twin.refused("there are 30, all untold", x -> {
            sniffMany(x, 30);
            for (int i = 0; i < 30; i++) {
                x.untell(i);
            }
        }, x -> x.sniffed(0, 999, true), -1);
    }

    private static void sniffMany(AyeJars x, int count) {
        Due.feed(x, THREE);
        x.house();
        for (int i = 0; i < count; i++) {
            Due.is("sniffed", x.sniffed(i % 21, 0, true), i);
        }
    }

    /** "that at an age (0 .. 20) its volume was so much at least, or was not"; "A SNIFFED (volume 0 .. 999): its number" */
    private static void sniffedLimits() {
        Due.topic("sniffed's limits");
        AyeJars x = Due.house(THREE);
        Due.is("least", x.sniffed(0, 0, true), 0);
        Due.is("age 20", x.sniffed(20, 0, true), 1);
        Due.is("volume 999", x.sniffed(0, 999, false), 2);
        Due.is("both", x.sniffed(20, 999, false), 3);
        Due.is("all fit", x.fits(0), 8);
        Due.is("999 at least", x.sniffed(20, 999, true), 4);
        Due.is("none fits", x.fits(0), 0);
        Due.is("untold", x.untell(4), true);
        Due.is("not even 0", x.sniffed(20, 0, false), 5);
        Due.is("none fits", x.fits(0), 0);
        AyeJars none = new AyeJars();
        Due.is("without members", none.sniffed(20, 1, true), 0);
        Due.is("an empty one is never 1", none.fits(0), 0);
    }

    /** "SNIFFED, 30 at most" */
    private static void thirtyAtMost() {
        Due.topic("thirty");
        AyeJars x = new AyeJars();
        sniffMany(x, 29);
        Due.is("the 30th", x.sniffed(20, 1, true), 29);
        Due.is("it counts: c is in it", x.sure(2, 0), 1);
        Due.is("there are 30", x.sniffed(0, 0, true), -1);
        Due.is("30", x.about(9), 30);
        Due.is("the last can be untold", x.untell(29), true);
        Due.is("30 all the same", x.about(9), 30);
        Due.is("no room by that", x.sniffed(0, 0, true), -1);
        x.house();
        Due.is("none behind a new house", x.about(9), 0);
        Due.is("numbered anew", x.sniffed(0, 0, true), 0);
    }

    /** "It is UNTOLD: true; false if it is so already, or there is none such." */
    private static void untellRefused() {
        Due.topic("untell");
        for (int n : Twin.outside(0, 0)) {
            Twin.refused("untell(" + n + ")", Twin::busy, x -> x.untell(n) ? 1 : 0, 0);
        }
        Twin.refused("untold already", x -> {
            Twin.busy(x);
            x.untell(0);
        }, x -> x.untell(0) ? 1 : 0, 0);
        Twin.refused("untold already, long ago", x -> {
            Twin.busy(x);
            x.untell(0);
            x.later(5);
        }, x -> x.untell(0) ? 1 : 0, 0);
        Due.is("none", new AyeJars().untell(0), false);
        AyeJars x = new AyeJars();
        sniffMany(x, 30);
        for (int i = 0; i < 30; i++) {
            Due.is("once", x.untell(i), true);
            Due.is("not twice", x.untell(i), false);
        }
        Due.is("none such", x.untell(30), false);
    }

    /** "NONE, doing nothing, for another number, or if it would be above 100,000." */
    private static void laterRefused() {
        Due.topic("later");
        for (int by : Twin.outside(0, 1000)) {
            if (by < 0 || by > 1000) {
                Twin.refused("later(" + by + ")", x -> x.later(by));
            }
        }
        Twin.refused("above 100,000", x -> lateBy(x, 99001), x -> x.later(1000), -1);
        Twin.refused("above 100,000", x -> lateBy(x, 100000), x -> x.later(1), -1);
    }

    private static void lateBy(AyeJars x, int by) {
        for (int left = by; left > 0; left -= 1000) {
            x.later(Math.min(1000, left));
        }
    }

    /** "So much later (0 .. 1000): the TIME" */
    private static void laterLimits() {
        Due.topic("later's limits");
        AyeJars x = new AyeJars();
        Due.is("later(0)", x.later(0), 0);
        Due.is("later(1000)", x.later(1000), 1000);
        lateBy(x, 98000);
        Due.is("just 100,000", x.later(1000), 100000);
        Due.is("none more", x.later(0), 100000);
        Due.is("one more", x.later(1), -1);
        Due.is("time", x.about(10), 100000);
        Due.is("told at the last time", x.sniffed(0, 1, true), 0);
        Due.is("known then", x.fits(100000), 0);
        Due.is("not known before", x.fits(99999), 1);
        Due.is("no act", x.about(7), 0);
    }

    /** "As known at k that counts that was TOLD at k or before, not UNTOLD at k or before." */
    private static void asKnownAt() {
        Due.topic("as known at");
        AyeJars x = Due.house(THREE);
        x.later(10);
        x.sniffed(0, 23, true);
        x.later(10);
        x.untell(0);
        int[] times = {Integer.MIN_VALUE, -1, 0, 9, 10, 11, 19, 20, 21, 100000, Integer.MAX_VALUE};
        int[] due = {8, 8, 8, 8, 1, 1, 1, 8, 8, 8, 8};
        for (int i = 0; i < times.length; i++) {
            Due.is("fits(" + times[i] + ")", x.fits(times[i]), due[i]);
            Due.is("sure(0, " + times[i] + ")", x.sure(0, times[i]), due[i] == 8 ? -2 : 1);
            Due.is("ask(1, " + times[i] + ")", x.ask(1, times[i]), due[i] == 8 ? 4 : 1);
        }
    }

    /** "UNTOLD at a later one or the same" */
    private static void untoldAtTheSame() {
        Due.topic("untold at the same");
        AyeJars x = Due.house(THREE);
        x.sniffed(0, 999, true);
        Due.is("none fits", x.fits(0), 0);
        x.untell(0);
        Due.is("it never counted", x.fits(0), 8);
        Due.is("nor before", x.fits(-1), 8);
        Due.is("nor later", x.fits(1), 8);
        x.sniffed(0, 999, true);
        Due.is("told again it is another", x.about(9), 2);
        Due.is("none fits", x.fits(0), 0);
    }

    /** "the TIME stays" (over a new house), and nothing is sniffed then. */
    private static void timeOverHouses() {
        Due.topic("time over houses");
        AyeJars x = Due.house(THREE);
        x.sniffed(0, 999, true);
        x.later(7);
        Due.feed(x, THREE);
        x.house();
        Due.is("time", x.about(10), 7);
        Due.is("none is sniffed", x.fits(7), 8);
        Due.is("anew", x.sniffed(0, 999, true), 0);
        Due.is("known from then on", x.fits(7), 0);
        Due.is("not before", x.fits(6), 8);
        Due.feed(x, "$");
        Due.is("a fault", x.house(), -1);
        Due.is("all stays", x.fits(7), 0);
        x.undo();
        x.image(0);
        x.back(0);
        Due.is("what is gone back to has no say", x.fits(7), 0);
    }

    /** "FITS: sets of MEMBERS (none, too)" */
    private static void fitsOfAll() {
        Due.topic("all sets");
        String text = "";
        for (int members = 0; members <= 6; members++) {
            AyeJars x = Due.house(text);
            Due.is("sets of " + members, x.fits(0), 1 << members);
            x.sniffed(0, 1, false);
            Due.is("none alone", x.fits(0), 1);
            x.sniffed(0, members, true);
            Due.is("without members all is none", x.fits(0), members == 0 ? 1 : 0);
            x.untell(0);
            Due.is("all of them", x.fits(0), 1);
            for (int m = 0; m < members; m++) {
                Due.is("all of them", x.sure(m, 0), 1);
            }
            text += "member m" + "abcdef".charAt(members % 6) + " breath 1;";
        }
    }

    /** "its volume was so much at least, or was not" */
    private static void atLeastOrNot() {
        Due.topic("at least, or not");
        AyeJars x = Due.house("member a breath 10;");
        for (int volume = 0; volume <= 12; volume++) {
            int n = x.sniffed(0, volume, true);
            Due.is(volume + " at least", x.fits(0), (volume == 0 ? 1 : 0) + (volume <= 10 ? 1 : 0));
            x.untell(n);
            n = x.sniffed(0, volume, false);
            Due.is("not " + volume, x.fits(0), (volume == 0 ? 0 : 1) + (volume <= 10 ? 0 : 1));
            x.untell(n);
        }
    }

    /** "of a strange JAR (shelf 0, never shaken), laid at day 0" */
    private static void strangeJar() {
        Due.topic("the strange jar");
        AyeJars x = Due.house("member a breath 20;bill a needs 1 opens 60 shelf 9;fade shelf * 20 + shaken * 20 + (day = age) * (day = 19) * 7 + (not day = age) * 20;");
        x.vote(0, 0);
        x.shake(0);
        Due.days(x, 3);
        Due.is("20 till the 19th day", x.sniffed(19, 20, true), 0);
        Due.is("a alone", x.sure(0, 0), 1);
        Due.is("13 behind it", x.sniffed(20, 13, true), 1);
        Due.is("no more", x.sniffed(20, 14, false), 2);
        Due.is("a alone", x.fits(0), 1);
        // all who are in it lose together
        AyeJars y = Due.house(THREE);
        y.sniffed(0, 18, true);
        y.sniffed(0, 19, false);
        Due.is("a and b", y.fits(0), 1);
        y.sniffed(6, 1, false);
        Due.is("18 - 6 * 3", y.fits(0), 1);
        y.sniffed(5, 3, true);
        Due.is("18 - 5 * 3", y.fits(0), 1);
        y.sniffed(5, 4, true);
        Due.is("no more", y.fits(0), 0);
    }

    /** "SURE; -2 if in some alone; NONE if none FITS, or there is none such." "1 if his is in it in all of these, 0 if in none" */
    private static void sureEdges() {
        Due.topic("sure");
        for (int m : Twin.outside(0, 3)) {
            Twin.refused("sure(" + m + ", 0)", x -> x.sure(m, 0));
            Twin.refused("sure(" + m + ", 2)", x -> x.sure(m, 2));
        }
        Due.is("no members", new AyeJars().sure(0, 0), -1);
        AyeJars x = Due.house(THREE);
        for (int m = 0; m < 3; m++) {
            Due.is("in some", x.sure(m, 0), -2);
        }
        // 10, 10 + 5 by 15, not 18: a, a and c, b and c (13)
        x.sniffed(0, 10, true);
        x.sniffed(0, 16, false);
        Due.is("a, ac, bc", x.fits(0), 3);
        Due.is("in two", x.sure(0, 0), -2);
        Due.is("in one", x.sure(1, 0), -2);
        x.sniffed(0, 14, true);
        Due.is("in all", x.sure(0, 0), 1);
        Due.is("in none", x.sure(1, 0), 0);
        Due.is("in all", x.sure(2, 0), 1);
        x.sniffed(0, 0, false);
        for (int m = -1; m < 4; m++) {
            Due.is("none fits", x.sure(m, 0), -1);
        }
    }

    /** "ASK what 0: the MEMBER, 1: how many are left at the most; NONE if none FITS, there are no MEMBERS, or for another what." */
    private static void askEdges() {
        Due.topic("ask");
        for (int what : Twin.outside(0, 1)) {
            Twin.refused("ask(" + what + ", 0)", x -> x.ask(what, 0));
            Twin.refused("ask(" + what + ", 2)", x -> x.ask(what, 2));
        }
        AyeJars none = new AyeJars();
        Due.is("no members", none.ask(0, 0), -1);
        Due.is("no members", none.ask(1, 0), -1);
        AyeJars six = Due.house("member a breath 1;member b breath 1;member c breath 1;member d breath 1;member e breath 1;member f breath 20;");
        Due.is("all alike: the first", six.ask(0, 0), 0);
        Due.is("half of 64", six.ask(1, 0), 32);
        six.sniffed(0, 6, true);
        Due.is("f is sure; of the others the first", six.ask(0, 0), 0);
        Due.is("half of 32", six.ask(1, 0), 16);
        six.sniffed(0, 21, false);
        Due.is("f alone: one is left by all", six.ask(0, 0), 0);
        Due.is("one", six.ask(1, 0), 1);
        six.sniffed(0, 0, false);
        Due.is("none fits", six.ask(0, 0), -1);
        Due.is("none fits", six.ask(1, 0), -1);
        Due.is("as known before", six.ask(1, -1), 32);
        AyeJars last = Due.house("member a breath 9;member b breath 9;member c breath 5;");
        last.sniffed(0, 18, true);
        Due.is("a and b are sure, c parts", last.ask(0, 0), 2);
        Due.is("one", last.ask(1, 0), 1);
    }
}
