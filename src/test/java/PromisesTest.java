/** Promises 1 and 6 to 45, each with ordinary calls, the document's edges, and wrong calls. */
public final class PromisesTest {
    /** Fades by its loss, as no formula is told; nobody yawns. */
    private static final String PLAIN = "member ann breath 10 keeps 1;member bob breath 8 keeps 2;"
            + "member cid breath 5;bill tax needs 15 opens 3;bill war needs 12 opens 5 shelf 2;";
    /** Fades by how often it was shaken, and by its shelf. */
    private static final String SHAKY = "member ann breath 10;member bob breath 8;member cid breath 5;"
            + "bill tax needs 7 opens 3;bill war needs 4 opens 2;bill law needs 5 opens 1;fade shaken + shelf;";

    public static void main(String[] args) {
        p01NewObject();
        p06Member();
        p07Bill();
        p08Vote();
        p08Yawns();
        p09Shake();
        p10Shelve();
        p11Join();
        p12Day();
        p13Undo();
        p14Redo();
        p15Will();
        p16Dull();
        p17Pass();
        p18Muster();
        p19Latest();
        p20Plan();
        p21Power();
        p22Best();
        p23Joint();
        p24Law();
        p25Odds();
        p26Mean();
        p27Ripe();
        p28Queue();
        p29Spoil();
        p30Sabotage();
        p31Wasted();
        p32Richest();
        p33Matches();
        p34Brittle();
        p35Longest();
        p36Lies();
        p37Sniffed();
        p38Untell();
        p39Later();
        p40Fits();
        p41Sure();
        p42Ask();
        p43Image();
        p44Back();
        p45About();
        Due.close("PromisesTest");
    }

    private static void p01NewObject() {
        Due.topic("1 a new object");
        AyeJars x = new AyeJars();
        for (int what = 0; what <= 13; what++) {
            Due.is("about(" + what + ")", x.about(what), 0);
        }
        Due.is("undo()", x.undo(), false);
        Due.is("redo()", x.redo(), false);
        Due.is("back(0)", x.back(0), -1);
        Due.is("NONE", AyeJars.NONE, -1);
    }

    private static void p06Member() {
        Due.topic("6 member");
        AyeJars x = Due.house(PLAIN);
        Due.is("breath", x.member(1, 0), 8);
        Due.is("keeps", x.member(1, 1), 2);
        Due.is("free", x.member(1, 2), 1);
        Due.is("may", x.member(1, 3), 3);
        Due.is("in", x.member(1, 4), 0);
        x.vote(1, 1);
        Due.is("free", x.member(1, 2), 0);
        Due.is("may", x.member(1, 3), 0);
        Due.is("in", x.member(1, 4), 2);
        x.day();
        Due.is("free", x.member(1, 2), 1);
        Due.is("may not twice for one", x.member(1, 3), 1);
        x.day();
        x.day();
        Due.is("may not for one that is not kept", x.member(0, 3), 2);
        Due.is("may none", x.member(1, 3), 0);
        Due.is("no such what", x.member(0, 5), -1);
        Due.is("no such what", x.member(0, -1), -1);
        Due.is("no such member", x.member(3, 0), -1);
        Due.is("no such member", x.member(-1, 0), -1);
        Due.days(x, 2);
        Due.is("in, though it is opened", x.member(1, 4), 2);
    }

    private static void p07Bill() {
        Due.topic("7 bill");
        AyeJars x = Due.house(PLAIN);
        x.vote(0, 1);
        x.vote(1, 1);
        x.shake(1);
        x.day();
        int[] due = {15, 3, 1, 2, 1, 0, 12, 5, 3, 3, 0};
        for (int what = 0; what < due.length; what++) {
            Due.is("bill(1, " + what + ")", x.bill(1, what), due[what]);
        }
        int[] empty = {0, 0, 0, 0, 0, 0, 15, 3, 0, 0, 0};
        for (int what = 0; what < empty.length; what++) {
            Due.is("bill(0, " + what + ")", x.bill(0, what), empty[what]);
        }
        x.vote(2, 0);
        x.vote(0, 0);
        Due.is("would pass", x.bill(0, 10), 0);
        Due.is("by no more than is in it", Due.house("member a breath 3;bill b needs 1 opens 9;fade 50;").bill(0, 9), 0);
        Due.days(x, 2);
        Due.is("flat", x.bill(0, 5), 2);
        Due.is("does not fade any more", x.bill(0, 9), 0);
        Due.is("loss is still told", x.bill(0, 8), 1);
        Due.is("no such what", x.bill(0, 11), -1);
        Due.is("no such what", x.bill(0, -1), -1);
        Due.is("no such bill", x.bill(2, 0), -1);
        Due.is("no such bill", x.bill(-1, 0), -1);
    }

    private static void p08Vote() {
        Due.topic("8 vote");
        AyeJars x = Due.house(PLAIN);
        Due.is("no such member", x.vote(3, 0), -1);
        Due.is("no such member", x.vote(-1, 0), -1);
        Due.is("no such bill", x.vote(0, 2), -1);
        Due.is("no such bill", x.vote(0, -1), -1);
        Due.is("seed stays", x.about(3), 0);
        Due.is("vote(0, 0)", x.vote(0, 0), 10);
        Due.is("seed", x.about(3), 71);
        Due.is("twice a day", x.vote(0, 1), -1);
        Due.is("vote(2, 0)", x.vote(2, 0), 15);
        Due.is("seed", x.about(3), 71 * 137 % 1000 + 71);
        Due.is("breaths", x.bill(0, 1), 5);
        Due.is("acts", x.about(7), 2);
        x.day();
        Due.is("twice for one", x.vote(0, 0), -1);
        Due.is("vote(0, 1)", x.vote(0, 1), 10);
        Due.days(x, 2);
        Due.is("not kept", x.vote(1, 0), -1);
    }

    private static void p08Yawns() {
        Due.topic("8 yawns");
        // seeds: 0, 71, 798, 397, 460, 91
        AyeJars x = Due.house("member a breath 3;member b breath 4;member c breath 5;"
                + "bill x needs 9 opens 9;yawn 72;");
        Due.is("71 is less than 72", x.vote(0, 0), 0);
        Due.is("seed", x.about(3), 71);
        Due.is("he did vote", x.member(0, 2), 0);
        Due.is("no breath", x.bill(0, 1), 0);
        Due.is("98 is not", x.vote(1, 0), 4);
        Due.is("97 is not", x.vote(2, 0), 9);
        Due.is("twice a day", x.vote(0, 0), -1);
        x.day();
        Due.is("60 is less", x.vote(0, 0), 9);
        Due.is("an act, too", x.about(7), 5);
        AyeJars y = Due.house("member a breath 3;bill x needs 9 opens 9;yawn 71;");
        Due.is("71 is not less than 71", y.vote(0, 0), 3);
        AyeJars z = Due.house("member a breath 3;bill x needs 9 opens 9;yawn 100;draw 4;");
        Due.is("all yawn", z.vote(0, 0), 0);
        Due.is("seed", z.about(3), 619);
    }

    private static void p09Shake() {
        Due.topic("9 shake");
        AyeJars x = Due.house(PLAIN);
        Due.is("empty", x.shake(0), -1);
        x.vote(0, 0);
        Due.is("shake(0)", x.shake(0), 0);
        Due.is("shake(0)", x.shake(0), 1);
        Due.is("shaken", x.bill(0, 4), 2);
        Due.is("acts", x.about(7), 3);
        for (int i = 2; i < 99; i++) {
            Due.is("shake(0)", x.shake(0), i);
        }
        Due.is("99 times already", x.shake(0), -1);
        Due.is("shaken", x.bill(0, 4), 99);
        Due.is("no such bill", x.shake(2), -1);
        Due.is("no such bill", x.shake(-1), -1);
        Due.days(x, 3);
        Due.is("not kept", x.shake(0), -1);
        AyeJars y = Due.house("member a breath 1;bill b needs 1 opens 9;fade 9;");
        y.vote(0, 0);
        y.day();
        Due.is("volume", y.bill(0, 0), 0);
        Due.is("flat, but not empty", y.shake(0), 0);
    }

    private static void p10Shelve() {
        Due.topic("10 shelve");
        AyeJars x = Due.house(PLAIN);
        Due.is("the same", x.shelve(1, 2), -1);
        Due.is("shelve(1, 9)", x.shelve(1, 9), 2);
        Due.is("shelve(1, 0)", x.shelve(1, 0), 9);
        Due.is("acts", x.about(7), 2);
        Due.is("no such shelf", x.shelve(1, 10), -1);
        Due.is("no such shelf", x.shelve(1, -1), -1);
        Due.is("no such bill", x.shelve(2, 1), -1);
        Due.is("no such bill", x.shelve(-1, 1), -1);
        Due.days(x, 3);
        Due.is("not kept", x.shelve(0, 1), -1);
        Due.is("still kept", x.shelve(1, 1), 0);
    }

    private static void p11Join() {
        Due.topic("11 join");
        AyeJars x = Due.house(PLAIN);
        x.vote(0, 1);
        Due.is("the second one empty", x.join(1, 0), -1);
        x.shake(1);
        x.day();
        x.vote(0, 0);
        x.vote(1, 0);
        x.shake(0);
        x.shake(0);
        Due.is("one", x.join(0, 0), -1);
        Due.is("no such", x.join(0, 2), -1);
        Due.is("no such", x.join(-1, 0), -1);
        Due.is("join(0, 1)", x.join(0, 1), 27);
        int[] first = {27, 3, 1, 0, 3, 0};
        int[] second = {0, 0, 0, 2, 0, 0};
        for (int what = 0; what < 6; what++) {
            Due.is("bill(0, " + what + ")", x.bill(0, what), first[what]);
            Due.is("bill(1, " + what + ")", x.bill(1, what), second[what]);
        }
        Due.is("into an empty one", x.join(1, 0), 27);
        Due.is("its age", x.bill(1, 2), 1);
        Due.is("its shelf", x.bill(1, 3), 2);
        Due.is("he may again", x.vote(2, 0), 5);
        Due.days(x, 2);
        Due.is("the first not kept", x.join(0, 1), -1);
        Due.is("the second not kept", x.join(1, 0), -1);
        joinMuch();
    }

    private static void joinMuch() {
        AyeJars x = Due.house("member a breath 20;member b breath 20;member c breath 20;member d breath 20;"
                + "member e breath 20;member f breath 20;bill x needs 1 opens 60;bill y needs 1 opens 60;fade 0;");
        for (int i = 1; i <= 9; i++) {
            for (int m = 0; m < 6; m++) {
                x.vote(m, 1);
            }
            for (int s = 0; s < 12; s++) {
                x.shake(1);
            }
            Due.is("volume", x.join(0, 1), Math.min(999, 120 * i));
            Due.is("shaken", x.bill(0, 4), Math.min(99, 12 * i));
            x.day();
        }
        for (int m = 0; m < 6; m++) {
            x.vote(m, 1);
        }
        Due.is("joint", x.joint(1, 0), 999);
        Due.is("ripe", x.ripe(0, 0, 1), 999);
        Due.is("queue", x.queue(0), 999);
        Due.lying(x);
        Due.is("law", x.law(99), 2);
        Due.is("joined the other way", x.join(1, 0), 999);
        x.vote(0, 0);
        x.day();
        Due.is("joined", x.join(0, 1), 999);
        Due.is("spoil beyond 99", x.spoil(0), -1);
    }

    private static void p12Day() {
        Due.topic("12 day");
        AyeJars x = Due.house(SHAKY);
        x.vote(0, 0);
        x.vote(1, 2);
        x.vote(2, 1);
        x.shake(0);
        x.shake(1);
        Due.is("day()", x.day(), 4);
        Due.is("day", x.about(2), 1);
        Due.is("faded", x.bill(0, 0), 9);
        Due.is("older", x.bill(0, 2), 1);
        Due.is("in force", x.bill(2, 5), 1);
        Due.is("day() of just what is needed", x.bill(1, 0), 4);
        Due.is("day()", x.day(), 0);
        Due.is("flat", x.bill(1, 5), 2);
        Due.is("day()", x.day(), 1);
        Due.is("just enough", x.bill(0, 0), 7);
        Due.is("force", x.about(5), 5);
        Due.is("flat", x.about(6), 2);
        x.day();
        Due.is("opened ones do not fade", x.bill(0, 0), 7);
        Due.is("nor grow older", x.bill(0, 2), 3);
        byTheDayThatWas();
        manyAtOnce();
        lastDay();
    }

    private static void manyAtOnce() {
        AyeJars x = Due.house("member a breath 5;member b breath 5;bill u needs 5 opens 2;bill v needs 5 opens 2;bill w needs 5 opens 2;");
        x.vote(0, 0);
        x.vote(1, 1);
        x.day();
        x.vote(0, 2);
        Due.is("in two of them", x.member(0, 4), 5);
        x.vote(1, 0);
        Due.is("in two of them", x.member(1, 4), 3);
        Due.is("all at once", x.day(), 7);
    }

    private static void byTheDayThatWas() {
        AyeJars x = Due.house("member a breath 20;member b breath 20;bill b needs 1 opens 9;bill c needs 1 opens 9;fade day * 2 + age;");
        x.vote(0, 0);
        x.day();
        Due.is("day 0, age 0", x.bill(0, 0), 20);
        x.vote(1, 1);
        x.day();
        Due.is("day 1, age 1", x.bill(0, 0), 17);
        Due.is("day 1, age 0: the empty one was not older", x.bill(1, 0), 18);
        x.day();
        Due.is("day 2, age 2", x.bill(0, 0), 11);
    }

    private static void lastDay() {
        AyeJars x = Due.house("member a breath 20 keeps 0;fade day;bill b needs 1 opens 60;");
        for (int i = 0; i < 999; i++) {
            Due.is("day()", x.day() >= 0, true);
        }
        Due.is("day", x.about(2), 999);
        Due.is("behind 999", x.day(), -1);
        Due.is("day", x.about(2), 999);
        Due.is("acts", x.about(7), 40);
        Due.is("what lies ahead goes on", x.longest(60), 0);
        x.undo();
        Due.is("one more then", x.day(), 0);
    }

    private static void p13Undo() {
        Due.topic("13 undo");
        AyeJars x = Due.house(PLAIN + "draw 5;");
        Due.is("none", x.undo(), false);
        x.vote(0, 0);
        x.shake(0);
        x.shelve(0, 4);
        x.day();
        x.vote(1, 1);
        x.join(0, 1);
        Due.is("join", x.undo(), true);
        Due.is("volume", x.bill(0, 0), 9);
        Due.is("volume", x.bill(1, 0), 8);
        Due.is("vote", x.undo(), true);
        Due.is("volume", x.bill(1, 0), 0);
        Due.is("he may again", x.member(1, 2), 1);
        Due.is("day", x.undo(), true);
        Due.is("day", x.about(2), 0);
        Due.is("he may not again", x.member(0, 2), 0);
        Due.is("volume", x.bill(0, 0), 10);
        Due.is("shelve", x.undo(), true);
        Due.is("shelf", x.bill(0, 3), 0);
        Due.is("shake", x.undo(), true);
        Due.is("shaken", x.bill(0, 4), 0);
        Due.is("vote", x.undo(), true);
        Due.is("seed", x.about(3), 5);
        Due.is("breaths", x.bill(0, 1), 0);
        Due.is("none", x.undo(), false);
        Due.is("redone", x.about(8), 6);
        opened();
        fortyAtMost();
    }

    private static void opened() {
        AyeJars x = Due.house("member a breath 5;bill b needs 1 opens 1;");
        x.vote(0, 0);
        x.day();
        Due.is("in force", x.bill(0, 5), 1);
        x.undo();
        Due.is("kept", x.bill(0, 5), 0);
        x.redo();
        Due.is("in force", x.bill(0, 5), 1);
    }

    private static void fortyAtMost() {
        AyeJars x = Due.house(PLAIN);
        for (int i = 1; i <= 50; i++) {
            x.shelve(0, i % 7);
            Due.is("acts", x.about(7), Math.min(i, 40));
        }
        for (int i = 1; i <= 40; i++) {
            Due.is("undo()", x.undo(), true);
            Due.is("shelf", x.bill(0, 3), (50 - i) % 7);
        }
        Due.is("the oldest are gone", x.undo(), false);
        for (int i = 11; i <= 30; i++) {
            Due.is("redo()", x.redo(), true);
            Due.is("shelf", x.bill(0, 3), i % 7);
        }
        Due.is("undone", x.about(7), 20);
        Due.is("redone", x.about(8), 20);
        x.shelve(1, 0);
        Due.is("undone", x.about(7), 21);
        Due.is("another act ends what can be redone", x.about(8), 0);
    }

    private static void p14Redo() {
        Due.topic("14 redo");
        AyeJars x = Due.house(PLAIN);
        Due.is("none", x.redo(), false);
        x.vote(0, 0);
        x.day();
        Due.is("none", x.redo(), false);
        x.undo();
        x.undo();
        Due.is("redo()", x.redo(), true);
        Due.is("volume", x.bill(0, 0), 10);
        Due.is("day", x.about(2), 0);
        Due.is("seed", x.about(3), 71);
        Due.is("redo()", x.redo(), true);
        Due.is("day", x.about(2), 1);
        Due.is("volume", x.bill(0, 0), 9);
        Due.is("none", x.redo(), false);
        x.undo();
        Due.is("what is not done ends nothing", x.vote(0, 0), -1);
        Due.is("nor does a question", x.plan(), 0);
        Due.is("redo()", x.redo(), true);
        x.undo();
        x.shake(0);
        Due.is("another act", x.redo(), false);
        Due.is("undo()", x.undo(), true);
        Due.is("shaken", x.bill(0, 4), 0);
    }

    private static void p15Will() {
        Due.topic("15 will");
        AyeJars x = Due.house(PLAIN);
        Due.is("empty", x.will(0, 60), 0);
        x.vote(0, 0);
        x.vote(1, 0);
        Due.is("will(0, 0)", x.will(0, 0), 18);
        Due.is("will(0, 1)", x.will(0, 1), 15);
        Due.is("as if not opened", x.will(0, 5), 3);
        Due.is("never below 0", x.will(0, 60), 0);
        Due.is("no such n", x.will(0, 61), -1);
        Due.is("no such n", x.will(0, -1), -1);
        Due.is("no such bill", x.will(2, 0), -1);
        Due.is("no such bill", x.will(-1, 0), -1);
        Due.is("nothing is done", x.bill(0, 0), 18);
        Due.days(x, 3);
        Due.is("not kept", x.will(0, 0), -1);
    }

    private static void p16Dull() {
        Due.topic("16 dull");
        AyeJars x = Due.house(PLAIN + "bill low needs 1 opens 9;");
        Due.is("empty", x.dull(0), 0);
        x.vote(0, 0);
        x.vote(1, 0);
        x.vote(2, 2);
        Due.is("18, 15, 12", x.dull(0), 2);
        Due.is("never", x.dull(2), -1);
        Due.is("no such bill", x.dull(3), -1);
        Due.is("no such bill", x.dull(-1), -1);
        Due.days(x, 3);
        Due.is("not kept", x.dull(0), -1);
        Due.is("behind 60", late(60).dull(0), 60);
        Due.is("behind 61", late(61).dull(0), -1);
    }

    private static AyeJars late(int days) {
        AyeJars x = Due.house("member a breath 2;bill b needs 2 opens 9;fade day = " + (days - 1) + ";");
        x.vote(0, 0);
        return x;
    }

    private static void p17Pass() {
        Due.topic("17 pass");
        AyeJars x = Due.house(SHAKY);
        Due.is("none", x.pass(), 0);
        x.vote(0, 0);
        x.vote(1, 2);
        x.vote(2, 1);
        Due.is("all", x.pass(), 7);
        x.shake(0);
        Due.is("10 - 3", x.pass(), 7);
        x.shake(0);
        Due.is("10 - 6", x.pass(), 6);
        x.day();
        Due.is("in force already", x.pass(), 2);
    }

    private static void p18Muster() {
        Due.topic("18 muster");
        AyeJars x = Due.house("member a breath 6;member b breath 4;member c breath 5;member d breath 5;"
                + "bill x needs 10 opens 1;bill y needs 99 opens 1;");
        Due.is("how many", x.muster(0, 0), 2);
        Due.is("a and b are the least bits", x.muster(0, 1), 3);
        Due.is("not enough", x.muster(1, 0), -1);
        Due.is("not enough", x.muster(1, 1), -1);
        x.vote(1, 1);
        Due.is("he may not any more", x.muster(0, 1), 5);
        x.vote(0, 0);
        Due.is("one", x.muster(0, 0), 1);
        Due.is("which", x.muster(0, 1), 4);
        x.vote(2, 0);
        Due.is("passes", x.muster(0, 0), 0);
        Due.is("passes", x.muster(0, 1), 0);
        Due.is("no such what", x.muster(0, 2), -1);
        Due.is("no such what", x.muster(0, -1), -1);
        Due.is("no such bill", x.muster(2, 0), -1);
        Due.is("no such bill", x.muster(-1, 0), -1);
        x.day();
        Due.is("not kept", x.muster(0, 0), -1);
        AyeJars y = Due.house("member a breath 20 keeps 9;member b breath 3;bill x needs 3 opens 9;");
        Due.is("all together are not enough, but one is", y.muster(0, 1), 2);
        AyeJars z = Due.house("member a breath 5;member b breath 5;member c breath 10;member d breath 10;bill x needs 10 opens 1;");
        Due.is("one is fewer than two", z.muster(0, 0), 1);
        Due.is("the least of the fewest", z.muster(0, 1), 4);
    }

    private static void p19Latest() {
        Due.topic("19 latest");
        AyeJars x = Due.house("member a breath 10 keeps 2;member b breath 3;bill x needs 6 opens 5;bill y needs 6 opens 1;");
        // nothing fades in an empty jar: his breath laid 1 or 2 days ahead of its day is enough
        Due.is("one day ahead", x.latest(0, 0), 4);
        Due.is("today", x.latest(0, 1), 0);
        Due.is("never enough", x.latest(1, 0), -1);
        x.vote(0, 1);
        Due.is("not today any more, later", x.latest(0, 0), 4);
        Due.is("is in it", x.latest(0, 1), -1);
        x.vote(1, 0);
        Due.is("no such member", x.latest(2, 0), -1);
        Due.is("no such member", x.latest(-1, 0), -1);
        Due.is("no such bill", x.latest(0, 2), -1);
        Due.is("no such bill", x.latest(0, -1), -1);
        x.day();
        Due.is("not kept", x.latest(1, 1), -1);
        onlyToday();
    }

    private static void onlyToday() {
        // the jar fades by 5 from day 1 on; at 9 and 10 it does not
        String text = "member a breath 4;member b breath 6;member c breath 9;bill x needs 10 opens 4;bill y needs 4 opens 1;"
                + "fade (volume < 9) * (day > 0) * 5;";
        AyeJars x = Due.house(text);
        x.vote(1, 0);
        Due.is("6 stays till day 1, with 4 more it keeps", x.latest(0, 0), 1);
        AyeJars y = Due.house("member a breath 4;member b breath 6;bill x needs 10 opens 4;bill y needs 4 opens 1;"
                + "fade (volume < 9) * 5;");
        y.vote(1, 0);
        Due.is("today alone", y.latest(0, 0), 0);
        y.vote(0, 1);
        Due.is("he voted today", y.latest(0, 0), -1);
        AyeJars z = Due.house("member a breath 4;bill y needs 4 opens 1;bill x needs 4 opens 1;");
        z.vote(0, 0);
        Due.is("it opens tomorrow, and he voted", z.latest(0, 1), -1);
    }

    private static void p20Plan() {
        Due.topic("20 plan");
        AyeJars x = Due.house("member a breath 9;member b breath 4;bill x needs 10 opens 1;bill y needs 3 opens 1;bill z needs 9 opens 1;");
        Due.is("two of one vote each", x.plan(), 2);
        Due.lying(x, 2, 1);
        Due.is("nothing is done", x.bill(2, 0), 0);
        x.vote(0, 0);
        Due.is("he may not: y by b, of x and y the first one", x.plan(), 1);
        Due.lying(x, -1, 0);
        x.undo();
        x.vote(1, 2);
        Due.is("a alone may", x.plan(), 1);
        Due.lying(x, 1, -1);
        x.day();
        Due.is("none is kept", x.plan(), 0);
        Due.lying(x, -1, -1);
        AyeJars y = Due.house("member a breath 5;member b breath 5;bill x needs 5 opens 1;bill y needs 10 opens 1;");
        Due.is("fewest votes, the first", y.plan(), 1);
        Due.lying(y, -1, 0);
        y.vote(1, 0);
        Due.is("what passes counts, and wants no vote", y.plan(), 1);
        Due.lying(y, -1, -1);
        AyeJars z = new AyeJars();
        Due.is("no members", z.plan(), 0);
        Due.lying(z);
        planOfAll();
    }

    private static void planOfAll() {
        AyeJars x = Due.house("member a breath 1;member b breath 2;member c breath 3;member d breath 4;member e breath 5;member f breath 6;"
                + "bill p needs 6 opens 9;bill q needs 5 opens 9;bill r needs 4 opens 9;bill s needs 3 opens 9;bill t needs 3 opens 9;");
        Due.is("all by all", x.plan(), 5);
        Due.lying(x, 3, 3, 4, 2, 1, 0);
    }

    private static void p21Power() {
        Due.topic("21 power");
        AyeJars x = Due.house("member a breath 6;member b breath 4;member c breath 2;bill x needs 7 opens 2;bill y needs 4 opens 1;bill z needs 99 opens 9;");
        // a with b or c: a is pivot in 4 of 6, b and c in 1 each
        Due.fraction("power(0, 0)", x.power(0, 0, 0), x.power(0, 0, 1), 2, 3);
        Due.fraction("power(1, 0)", x.power(1, 0, 0), x.power(1, 0, 1), 1, 6);
        Due.fraction("power(2, 0)", x.power(2, 0, 0), x.power(2, 0, 1), 1, 6);
        Due.fraction("power(0, 1)", x.power(0, 1, 0), x.power(0, 1, 1), 1, 2);
        Due.fraction("power(2, 1)", x.power(2, 1, 0), x.power(2, 1, 1), 0, 1);
        Due.fraction("power(0, 2)", x.power(0, 2, 0), x.power(0, 2, 1), 0, 1);
        x.vote(0, 0);
        x.vote(2, 2);
        Due.fraction("as if it were empty", x.power(1, 0, 0), x.power(1, 0, 1), 1, 6);
        Due.is("no such member", x.power(3, 0, 0), -1);
        Due.is("no such member", x.power(-1, 0, 0), -1);
        Due.is("no such bill", x.power(0, 3, 0), -1);
        Due.is("no such bill", x.power(0, -1, 0), -1);
        Due.is("no such part", x.power(0, 0, 2), -1);
        Due.is("no such part", x.power(0, 0, -1), -1);
        x.day();
        Due.is("not kept", x.power(0, 1, 0), -1);
        powerByLoss();
    }

    private static void powerByLoss() {
        // b spoils what a makes pass: of ab, ba a is pivot in one order alone; shaken as it is
        AyeJars x = Due.house("member a breath 6;member b breath 1 keeps 6;bill x needs 6 opens 1;fade loss + shaken * 2;");
        Due.fraction("power(0, 0)", x.power(0, 0, 0), x.power(0, 0, 1), 1, 2);
        Due.fraction("power(1, 0)", x.power(1, 0, 0), x.power(1, 0, 1), 0, 1);
        x.vote(0, 0);
        x.shake(0);
        Due.fraction("shaken", x.power(0, 0, 0), x.power(0, 0, 1), 0, 1);
        // both ways over the same need: a in front passes, b behind spoils, c behind mends
        AyeJars y = Due.house("member a breath 5;member b breath 1 keeps 5;member c breath 9;bill x needs 5 opens 1;");
        Due.fraction("a", y.power(0, 0, 0), y.power(0, 0, 1), 1, 3);
        Due.fraction("b", y.power(1, 0, 0), y.power(1, 0, 1), 0, 1);
        Due.fraction("c", y.power(2, 0, 0), y.power(2, 0, 1), 5, 6);
    }

    private static void p22Best() {
        Due.topic("22 best");
        AyeJars x = Due.house("member a breath 20;bill b needs 1 opens 2 shelf 5;bill c needs 1 opens 2;fade (shelf - 7) * (shelf - 7);");
        Due.is("empty: all alike", x.best(0), 0);
        x.vote(0, 0);
        Due.is("best(0)", x.best(0), 7);
        Due.is("nothing is done", x.bill(0, 3), 5);
        Due.is("no such bill", x.best(2), -1);
        Due.is("no such bill", x.best(-1), -1);
        Due.days(x, 2);
        Due.is("not kept", x.best(0), -1);
        AyeJars y = Due.house("member a breath 20;bill b needs 1 opens 2;fade (shelf < 3) + (shelf > 5) ;");
        y.vote(0, 0);
        Due.is("of like ones the first", y.best(0), 3);
        AyeJars z = Due.house("member a breath 20;bill b needs 1 opens 2;fade (not shelf = 9);");
        z.vote(0, 0);
        Due.is("the last shelf", z.best(0), 9);
    }

    private static void p23Joint() {
        Due.topic("23 joint");
        AyeJars x = Due.house(PLAIN);
        x.vote(0, 0);
        x.vote(1, 1);
        Due.is("18 - 3 * 3", x.joint(0, 1), 9);
        Due.is("18 - 5 * 3", x.joint(1, 0), 3);
        Due.is("nothing is done", x.bill(0, 0), 10);
        Due.is("one", x.joint(0, 0), -1);
        Due.is("no such", x.joint(0, 2), -1);
        Due.is("no such", x.joint(-1, 0), -1);
        x.undo();
        Due.is("the second one empty", x.joint(0, 1), -1);
        Due.is("the first one empty", x.joint(1, 0), 5);
        Due.days(x, 3);
        Due.is("not kept", x.joint(1, 0), -1);
        Due.is("not kept", x.joint(0, 1), -1);
        AyeJars y = Due.house("member a breath 20;member b breath 20;bill b needs 1 opens 5 shelf 1;bill c needs 1 opens 5 shelf 3;fade age + shaken + shelf;");
        y.vote(0, 1);
        y.day();
        y.vote(1, 0);
        y.shake(0);
        y.shake(1);
        // volume 37, age 1, shaken 2, shelf 1: 4, 5, 6, 7
        Due.is("age, shaken, shelf", y.joint(0, 1), 15);
    }

    private static void p24Law() {
        Due.topic("24 law");
        AyeJars x = Due.house(SHAKY);
        x.vote(0, 0);
        x.vote(1, 1);
        Due.is("10 of 7, 8 of 4, 0 of 5", x.law(0), 2);
        Due.is("law(3)", x.law(3), 2);
        Due.is("law(4)", x.law(4), 1);
        Due.is("law(5)", x.law(5), 0);
        Due.is("law(-4)", x.law(-4), 2);
        Due.is("empty ones, too", x.law(-5), 3);
        Due.is("law(-99)", x.law(-99), 3);
        Due.is("law(99)", x.law(99), 0);
        Due.is("no such n", x.law(-100), -1);
        Due.is("no such n", x.law(100), -1);
        x.day();
        Due.is("kept ones alone", x.law(-99), 2);
    }

    private static void p25Odds() {
        Due.topic("25 odds");
        AyeJars x = Due.house("member a breath 6;member b breath 4;member c breath 4;member d breath 4;member e breath 4;"
                + "bill x needs 8 opens 1;bill y needs 4 opens 1;yawn 20;");
        Due.fraction("none", x.odds(0, 0, 0), x.odds(0, 0, 1), 0, 1);
        Due.fraction("one of one", x.odds(1, 1, 0), x.odds(1, 1, 1), 4, 5);
        Due.fraction("two of two", x.odds(0, 3, 0), x.odds(0, 3, 1), 16, 25);
        Due.fraction("two of three", x.odds(0, 7, 0), x.odds(0, 7, 1), 112, 125);
        Due.fraction("two of four", x.odds(0, 15, 0), x.odds(0, 15, 1), 608, 625);
        Due.fraction("without a", x.odds(0, 30, 0), x.odds(0, 30, 1), 608, 625);
        Due.is("more than 4", x.odds(0, 31, 0), -1);
        Due.is("no such member", x.odds(0, 32, 0), -1);
        Due.is("no such set", x.odds(0, -1, 0), -1);
        Due.is("no such bill", x.odds(2, 1, 0), -1);
        Due.is("no such bill", x.odds(-1, 1, 0), -1);
        Due.is("no such part", x.odds(0, 1, 2), -1);
        Due.is("no such part", x.odds(0, 1, -1), -1);
        Due.is("seed stays", x.about(3), 0);
        x.vote(0, 1);
        Due.is("he may not today", x.odds(0, 1, 0), -1);
        Due.fraction("sure", x.odds(1, 30, 0), x.odds(1, 30, 1), 1, 1);
        x.day();
        Due.is("not kept", x.odds(1, 2, 0), -1);
        Due.fraction("nobody for one not kept", x.odds(1, 0, 0), x.odds(1, 0, 1), 0, 1);
        AyeJars y = Due.house("member a breath 6;member b breath 1 keeps 3;member c breath 6;member d breath 1;"
                + "bill x needs 6 opens 1;yawn 1;");
        // 0.01 * 0.9999 + 0.99 * 0.99 * 0.99
        Due.fraction("b spoils what a or c alone would do", y.odds(0, 15, 0), y.odds(0, 15, 1), 490149, 500000);
        AyeJars z = Due.house("member a breath 4;member b breath 4;member c breath 4;member d breath 4;bill x needs 16 opens 1;yawn 1;");
        Due.fraction("the longest numbers", z.odds(0, 15, 0), z.odds(0, 15, 1), 96059601, 100000000);
    }

    private static void p26Mean() {
        Due.topic("26 mean");
        AyeJars x = Due.house(PLAIN + "yawn 20;");
        // 0.64 * (18 - 9) + 0.16 * (10 - 3) + 0.16 * (8 - 6)
        Due.fraction("mean(0, 3)", x.mean(0, 3, 0), x.mean(0, 3, 1), 36, 5);
        Due.fraction("none", x.mean(0, 0, 0), x.mean(0, 0, 1), 0, 1);
        Due.fraction("cid", x.mean(1, 4, 0), x.mean(1, 4, 1), 4, 1);
        // 0.512 * 14 + 0.128 * (9 + 12 + 7) + 0.032 * (7 + 2 + 5)
        Due.fraction("all", x.mean(0, 7, 0), x.mean(0, 7, 1), 56, 5);
        Due.is("no such set", x.mean(0, 8, 0), -1);
        Due.is("no such set", x.mean(0, -1, 0), -1);
        Due.is("no such bill", x.mean(2, 1, 0), -1);
        Due.is("no such bill", x.mean(-1, 1, 0), -1);
        Due.is("no such part", x.mean(0, 1, 2), -1);
        Due.is("no such part", x.mean(0, 1, -1), -1);
        x.vote(0, 0);
        x.vote(2, 0);
        Due.is("he may not today", x.mean(1, 1, 0), -1);
        Due.fraction("as it is", x.mean(0, 0, 0), x.mean(0, 0, 1), 12, 1);
        Due.days(x, 3);
        Due.is("not kept", x.mean(0, 2, 0), -1);
        Due.fraction("nobody for one not kept", x.mean(0, 0, 0), x.mean(0, 0, 1), 12, 1);
        AyeJars y = Due.house("member a breath 1;member b breath 1;member c breath 1;member d breath 1;bill x needs 1 opens 1;yawn 100;");
        Due.is("more than 3", y.mean(0, 15, 0), -1);
        Due.fraction("all yawn", y.mean(0, 14, 0), y.mean(0, 14, 1), 0, 1);
    }

    private static void p27Ripe() {
        Due.topic("27 ripe");
        AyeJars x = Due.house(PLAIN);
        Due.is("the last day ahead", x.ripe(0, 7, 0), 2);
        Due.is("23 - 3", x.ripe(0, 7, 1), 20);
        Due.is("cid keeps well", x.ripe(0, 4, 0), 0);
        Due.is("5", x.ripe(0, 4, 1), 5);
        Due.is("none", x.ripe(0, 0, 0), 0);
        Due.is("none", x.ripe(0, 0, 1), 0);
        Due.is("no such what", x.ripe(0, 7, 2), -1);
        Due.is("no such what", x.ripe(0, 7, -1), -1);
        Due.is("no such set", x.ripe(0, 8, 0), -1);
        Due.is("no such set", x.ripe(0, -1, 0), -1);
        Due.is("no such bill", x.ripe(2, 1, 0), -1);
        Due.is("no such bill", x.ripe(-1, 1, 0), -1);
        x.vote(0, 0);
        Due.is("one is in it", x.ripe(0, 3, 0), -1);
        Due.is("one is in it", x.ripe(0, 1, 1), -1);
        Due.is("whoever voted today", x.ripe(1, 1, 0), 4);
        Due.is("bob into it", x.ripe(0, 2, 0), 2);
        Due.is("10 - 2 + 8 - 3", x.ripe(0, 2, 1), 13);
        Due.days(x, 3);
        Due.is("not kept", x.ripe(0, 2, 0), -1);
        AyeJars y = Due.house("member a breath 9;bill x needs 1 opens 9;fade (day = 2) + (day = 7);");
        Due.is("of like ones the fewest", y.ripe(0, 1, 0), 8);
        AyeJars z = Due.house("member a breath 9;bill x needs 1 opens 9;fade (day = 2) + (day = 8);");
        Due.is("of like ones the fewest", z.ripe(0, 1, 0), 3);
        Due.is("its volume", z.ripe(0, 1, 1), 8);
    }

    private static void p28Queue() {
        Due.topic("28 queue");
        AyeJars x = Due.house(PLAIN);
        // 5; 15 - 1; 22 - 3
        Due.is("queue(0)", x.queue(0), 19);
        Due.lying(x, 2, 0, 1);
        x.vote(2, 0);
        // 15 - 1; 22 - 3; - 3
        Due.is("two of them", x.queue(0), 16);
        Due.lying(x, 0, 1);
        x.vote(1, 1);
        Due.is("whoever voted today", x.queue(0), 16);
        Due.lying(x, 0, 1);
        Due.is("no such bill", x.queue(2), -1);
        Due.lying(x);
        x.queue(0);
        Due.is("no such bill", x.queue(-1), -1);
        Due.lying(x);
        x.day();
        x.vote(0, 0);
        x.vote(1, 0);
        Due.is("nobody is left", x.queue(0), 17);
        Due.lying(x);
        Due.days(x, 2);
        x.queue(1);
        Due.is("not kept", x.queue(0), -1);
        Due.lying(x);
        moreThanDays();
    }

    private static void moreThanDays() {
        AyeJars x = Due.house("member a breath 1;member b breath 9;member c breath 2;member d breath 9;bill x needs 1 opens 2;bill y needs 1 opens 60;");
        Due.is("those behind its day have no say", x.queue(0), 18);
        Due.lying(x, 1, 3, 0, 2);
        Due.is("all alike: the first", x.queue(1), 21);
        Due.lying(x, 0, 1, 2, 3);
        AyeJars y = new AyeJars();
        Due.is("no bill", y.queue(0), -1);
        Due.is("no members", Due.house("bill x needs 1 opens 2;").queue(0), 0);
    }

    private static void p29Spoil() {
        Due.topic("29 spoil");
        AyeJars x = Due.house(SHAKY + "bill few needs 5 opens 1;member dan breath 20;");
        Due.is("does not pass", x.spoil(0), 0);
        x.vote(0, 0);
        Due.is("10 - 3, 10 - 6", x.spoil(0), 2);
        x.shake(0);
        Due.is("once more", x.spoil(0), 1);
        x.vote(3, 3);
        Due.is("20 - 16", x.spoil(3), 16);
        Due.is("nothing is done", x.bill(3, 4), 0);
        Due.is("no such bill", x.spoil(4), -1);
        Due.is("no such bill", x.spoil(-1), -1);
        x.day();
        Due.is("not kept", x.spoil(3), -1);
        AyeJars y = Due.house("member a breath 20;bill b needs 1 opens 1;fade shaken;");
        y.vote(0, 0);
        Due.is("20 are just enough", y.spoil(0), 20);
        AyeJars z = Due.house("member a breath 20;bill b needs 1 opens 1;fade (shaken > 20) * 20;");
        z.vote(0, 0);
        Due.is("20 are not enough", z.spoil(0), -1);
        for (int i = 0; i < 15; i++) {
            z.shake(0);
        }
        Due.is("6 more", z.spoil(0), 6);
        AyeJars beyond = Due.house("member a breath 20;bill b needs 1 opens 1;fade (shaken > 104) * 20;");
        beyond.vote(0, 0);
        for (int i = 0; i < 99; i++) {
            beyond.shake(0);
        }
        Due.is("beyond 99", beyond.spoil(0), 6);
    }

    private static void p30Sabotage() {
        Due.topic("30 sabotage");
        AyeJars x = Due.house(SHAKY);
        Due.is("none comes into force anyway", x.sabotage(3), 0);
        Due.lying(x, -1, -1, -1);
        x.vote(0, 0);
        x.vote(1, 2);
        x.vote(2, 1);
        // tax 10 of 7: 4 needed over 3 days; war 5 of 4: one now; law 8 of 5: 4 times now, can't be
        Due.is("sabotage(1)", x.sabotage(1), 2);
        Due.lying(x, 1);
        Due.is("war now is enough", x.sabotage(2), 2);
        Due.lying(x, 1, -1);
        Due.is("tax on day 0 and 1: 3 + 2; war can't then", x.sabotage(3), 2);
        Due.lying(x, 1, -1, -1);
        Due.is("nothing is done", x.bill(1, 4), 0);
        Due.is("no such n", x.sabotage(0), -1);
        Due.lying(x);
        x.sabotage(1);
        Due.is("no such n", x.sabotage(4), -1);
        Due.lying(x);
        x.shake(0);
        // tax 10 - 3 is just enough: one more at any time, the last way first
        Due.is("both", x.sabotage(3), 1);
        Due.lying(x, 1, -1, 0);
        Due.is("both", x.sabotage(2), 1);
        Due.lying(x, 1, 0);
        x.day();
        Due.is("kept now alone count", x.sabotage(1), 1);
        Due.lying(x, 0);
        notWhenOpened();
        fiveBills();
    }

    private static void fiveBills() {
        AyeJars x = Due.house("member a breath 9;member b breath 9;member c breath 9;member d breath 9;member e breath 9;"
                + "bill p needs 5 opens 9;bill q needs 5 opens 9;bill r needs 5 opens 9;bill s needs 5 opens 9;bill t needs 6 opens 9;fade (shaken > 1) * 4;");
        for (int m = 0; m < 5; m++) {
            x.vote(m, m);
        }
        Due.is("once is not enough", x.sabotage(1), 5);
        Due.lying(x, -1);
        x.shake(4);
        x.shake(3);
        Due.is("of s and t the first", x.sabotage(1), 4);
        Due.lying(x, 3);
        Due.is("both", x.sabotage(2), 3);
        Due.lying(x, 3, 4);
    }

    private static void notWhenOpened() {
        // it opens behind one day: once shaken is not enough, a second time can't be
        AyeJars x = Due.house("member a breath 5;bill x needs 4 opens 1;bill y needs 4 opens 40;fade (shaken > 1) * 2;");
        x.vote(0, 0);
        Due.is("sabotage(3)", x.sabotage(3), 1);
        Due.lying(x, -1, -1, -1);
        AyeJars y = Due.house("member a breath 5;bill x needs 4 opens 2;bill y needs 4 opens 40;fade (shaken > 1) * 2;");
        y.vote(0, 1);
        Due.is("a far day", y.sabotage(3), 0);
        Due.lying(y, -1, 1, 1);
        Due.is("in two days", y.sabotage(2), 0);
        Due.lying(y, 1, 1);
        AyeJars z = Due.house("member a breath 5;bill x needs 4 opens 9;fade (shaken > 99) * 2;");
        z.vote(0, 0);
        for (int i = 0; i < 99; i++) {
            z.shake(0);
        }
        Due.is("one shaken 99 times can't be", z.sabotage(3), 1);
        Due.lying(z, -1, -1, -1);
    }

    private static void p31Wasted() {
        Due.topic("31 wasted");
        AyeJars x = Due.house(PLAIN);
        Due.is("none", x.wasted(), 0);
        x.vote(0, 0);
        Due.is("10", x.wasted(), 10);
        x.vote(1, 1);
        Due.is("18", x.wasted(), 18);
        x.vote(2, 0);
        Due.is("15 - 3", x.wasted(), 23);
        x.day();
        x.vote(1, 0);
        Due.is("tax 22 - 6 passes", x.wasted(), 6);
        Due.days(x, 2);
        Due.is("war", x.wasted(), 2);
        Due.days(x, 2);
        Due.is("flat ones are not kept", x.wasted(), 0);
    }

    private static void p32Richest() {
        Due.topic("32 richest");
        AyeJars x = Due.house(PLAIN);
        Due.is("all alike", x.richest(), 0);
        x.vote(1, 1);
        Due.is("war", x.richest(), 1);
        x.vote(0, 0);
        Due.is("tax", x.richest(), 0);
        Due.days(x, 3);
        Due.is("kept ones alone", x.richest(), 1);
        Due.days(x, 2);
        Due.is("none is kept", x.richest(), -1);
        Due.is("no bills", new AyeJars().richest(), -1);
    }

    private static void p33Matches() {
        Due.topic("33 matches");
        AyeJars x = Due.house("member a breath 5;member b breath 5;member c breath 5;bill x needs 10 opens 2;bill y needs 10 opens 2;bill z needs 5 opens 2;bill w needs 1 opens 2;");
        Due.is("all empty", x.matches(), 0);
        x.vote(0, 0);
        Due.is("an empty first one: none is enough but z and w", x.matches(), 2);
        x.vote(1, 1);
        // x with y, y with x; z and w each with x or y
        Due.is("matches()", x.matches(), 6);
        x.vote(2, 2);
        Due.is("z passes now, w does not", x.matches(), 4);
        Due.days(x, 2);
        Due.is("none is kept", x.matches(), 0);
    }

    private static void p34Brittle() {
        Due.topic("34 brittle");
        AyeJars x = Due.house(SHAKY);
        Due.is("none", x.brittle(), 0);
        x.vote(0, 0);
        x.vote(1, 1);
        x.vote(2, 2);
        // tax 10 - 3, war 8 - 2, law 5 - 1 of 5
        Due.is("law", x.brittle(), 4);
        x.shake(0);
        x.shake(1);
        Due.is("tax 10 - 6, war 8 - 4 is just enough", x.brittle(), 5);
        x.shake(1);
        Due.is("war 8 - 6", x.brittle(), 7);
        x.shake(1);
        Due.is("war fails already", x.brittle(), 5);
        x.day();
        Due.is("kept ones alone", x.brittle(), 1);
    }

    private static void p35Longest() {
        Due.topic("35 longest");
        AyeJars x = Due.house(PLAIN);
        Due.is("longest(0)", x.longest(0), 0);
        Due.is("10 - 5, 5", x.longest(5), 0);
        Due.is("10 - 6, 5", x.longest(6), 2);
        Due.is("longest(60)", x.longest(60), 2);
        Due.is("no such n", x.longest(61), -1);
        Due.is("no such n", x.longest(-1), -1);
        Due.is("no members", new AyeJars().longest(0), -1);
        AyeJars y = Due.house("member a breath 10;member b breath 7 keeps 1;bill x needs 1 opens 9 shelf 3;fade (loss = 0) * day + shelf;");
        Due.is("by the day that is: 10 - 1", y.longest(2), 0);
        y.day();
        Due.is("10 - 3, 7", y.longest(2), 0);
        y.day();
        Due.is("10 - 5, 7", y.longest(2), 1);
    }

    private static void p36Lies() {
        Due.topic("36 lies");
        AyeJars x = Due.house(PLAIN);
        Due.lying(x);
        Due.is("lies", x.lies(Integer.MIN_VALUE), -2);
        Due.is("lies", x.lies(Integer.MAX_VALUE), -2);
        x.queue(0);
        Due.lying(x, 2, 0, 1);
        x.sabotage(2);
        Due.lying(x, -1, -1);
        x.plan();
        Due.lying(x, -1, -1, -1);
        x.vote(0, 0);
        x.undo();
        x.image(0);
        x.back(0);
        Due.lying(x, -1, -1, -1);
    }

    private static void p37Sniffed() {
        Due.topic("37 sniffed");
        AyeJars x = Due.house(PLAIN);
        Due.is("no such age", x.sniffed(-1, 0, true), -1);
        Due.is("no such age", x.sniffed(21, 0, true), -1);
        Due.is("no such volume", x.sniffed(0, -1, true), -1);
        Due.is("no such volume", x.sniffed(0, 1000, true), -1);
        Due.is("none yet", x.about(9), 0);
        Due.is("sniffed", x.sniffed(0, 0, true), 0);
        Due.is("sniffed", x.sniffed(20, 999, false), 1);
        Due.is("still all", x.fits(0), 8);
        for (int i = 2; i < 30; i++) {
            Due.is("sniffed", x.sniffed(1, 0, true), i);
        }
        Due.is("there are 30", x.sniffed(1, 0, true), -1);
        Due.is("untell", x.untell(3), true);
        Due.is("untold ones count, too", x.sniffed(1, 0, true), -1);
        Due.is("about(9)", x.about(9), 30);
        Due.is("no act", x.about(7), 0);
    }

    private static void p38Untell() {
        Due.topic("38 untell");
        AyeJars x = Due.house(PLAIN);
        Due.is("none such", x.untell(0), false);
        x.sniffed(0, 999, true);
        x.later(3);
        Due.is("none such", x.untell(-1), false);
        Due.is("none such", x.untell(1), false);
        Due.is("untell(0)", x.untell(0), true);
        Due.is("already", x.untell(0), false);
        Due.is("fits before that was told", x.fits(-1), 8);
        Due.is("fits then", x.fits(0), 0);
        Due.is("fits ahead of that", x.fits(2), 0);
        Due.is("fits from then on", x.fits(3), 8);
        x.sniffed(0, 999, true);
        Due.is("fits", x.fits(3), 0);
        x.untell(1);
        Due.is("told and untold at one time", x.fits(3), 8);
    }

    private static void p39Later() {
        Due.topic("39 later");
        AyeJars x = new AyeJars();
        Due.is("later(0)", x.later(0), 0);
        Due.is("later(7)", x.later(7), 7);
        Due.is("below", x.later(-1), -1);
        Due.is("above", x.later(1001), -1);
        Due.is("time", x.about(10), 7);
        for (int i = 1; i <= 99; i++) {
            Due.is("later(1000)", x.later(1000), 7 + 1000 * i);
        }
        Due.is("too late", x.later(994), -1);
        Due.is("time", x.about(10), 99007);
        Due.is("just in time", x.later(993), 100000);
        Due.is("too late", x.later(1), -1);
        Due.is("later(0)", x.later(0), 100000);
    }

    private static void p40Fits() {
        Due.topic("40 fits");
        AyeJars x = Due.house(PLAIN);
        Due.is("all sets", x.fits(0), 8);
        x.sniffed(0, 13, true);
        // 23, 18, 15, 13
        Due.is("13 at least", x.fits(0), 4);
        x.later(1);
        x.sniffed(2, 13, false);
        // 17, 12, 13, 9
        Due.is("not 13 behind two days", x.fits(1), 2);
        Due.is("as known before", x.fits(0), 4);
        Due.is("as known long before", x.fits(Integer.MIN_VALUE), 8);
        Due.is("as known in the end", x.fits(Integer.MAX_VALUE), 2);
        x.vote(0, 0);
        x.day();
        Due.is("what is now has no say", x.fits(1), 2);
        Due.is("without members", new AyeJars().fits(0), 1);
        AyeJars y = Due.house("member a breath 9;member b breath 8;fade day + age + shelf + shaken;");
        y.day();
        // laid at day 0: behind two days 2 are gone
        y.sniffed(2, 7, true);
        y.sniffed(2, 8, false);
        Due.is("a alone", y.fits(0), 1);
        Due.is("a alone", y.sure(0, 0), 1);
        Due.is("b is not", y.sure(1, 0), 0);
    }

    private static void p41Sure() {
        Due.topic("41 sure");
        AyeJars x = Due.house(PLAIN);
        Due.is("in some", x.sure(0, 0), -2);
        x.sniffed(0, 13, true);
        x.later(1);
        x.sniffed(2, 13, false);
        // ann and bob, bob and cid
        Due.is("ann", x.sure(0, 1), -2);
        Due.is("bob", x.sure(1, 1), 1);
        Due.is("cid", x.sure(2, 1), -2);
        x.sniffed(0, 14, true);
        Due.is("ann", x.sure(0, 1), 1);
        Due.is("cid", x.sure(2, 1), 0);
        Due.is("as known before", x.sure(1, 0), -2);
        Due.is("no such member", x.sure(3, 1), -1);
        Due.is("no such member", x.sure(-1, 1), -1);
        x.sniffed(0, 999, true);
        Due.is("none fits", x.sure(0, 1), -1);
    }

    private static void p42Ask() {
        Due.topic("42 ask");
        AyeJars x = Due.house(PLAIN);
        Due.is("all alike: the first", x.ask(0, 0), 0);
        Due.is("half", x.ask(1, 0), 4);
        x.sniffed(0, 13, true);
        // abc, ab, ac, bc: each in three of four
        Due.is("the first", x.ask(0, 0), 0);
        Due.is("three", x.ask(1, 0), 3);
        x.sniffed(0, 15, false);
        // bc alone
        Due.is("of one set the first", x.ask(0, 0), 0);
        Due.is("one", x.ask(1, 0), 1);
        x.untell(1);
        x.sniffed(2, 13, false);
        Due.is("ab, bc: a parts them", x.ask(0, 0), 0);
        Due.is("one is left", x.ask(1, 0), 1);
        Due.is("no such what", x.ask(2, 0), -1);
        Due.is("no such what", x.ask(-1, 0), -1);
        x.sniffed(0, 999, true);
        Due.is("none fits", x.ask(0, 0), -1);
        Due.is("none fits", x.ask(1, 0), -1);
        Due.is("as known before", x.ask(1, -1), 4);
        AyeJars none = new AyeJars();
        Due.is("no members", none.ask(0, 0), -1);
        Due.is("no members", none.ask(1, 0), -1);
        AyeJars y = Due.house("member a breath 9;member b breath 1;member c breath 2;");
        y.sniffed(0, 9, true);
        Due.is("a is sure, b parts best", y.ask(0, 0), 1);
        Due.is("two are left", y.ask(1, 0), 2);
    }

    private static void p43Image() {
        Due.topic("43 image");
        AyeJars x = Due.house(PLAIN);
        Due.is("image(0)", x.image(0), 0);
        x.day();
        Due.is("image(2)", x.image(2), 1);
        Due.is("no such box", x.image(3), -1);
        Due.is("no such box", x.image(-1), -1);
        Due.is("no act", x.about(7), 1);
        x.day();
        Due.is("image(0) over the older one", x.image(0), 2);
        x.day();
        Due.is("back(0)", x.back(0), 2);
        Due.is("back(2)", x.back(2), 1);
        Due.is("back(1)", x.back(1), -1);
    }

    private static void p44Back() {
        Due.topic("44 back");
        AyeJars x = Due.house(PLAIN + "draw 7;");
        x.vote(0, 0);
        x.shake(0);
        x.image(1);
        x.sniffed(1, 1, true);
        x.later(4);
        x.day();
        x.vote(1, 0);
        x.shelve(0, 9);
        Due.days(x, 4);
        Due.is("nothing was", x.back(0), -1);
        Due.is("no such box", x.back(3), -1);
        Due.is("no such box", x.back(-1), -1);
        Due.is("day", x.about(2), 5);
        Due.is("back(1)", x.back(1), 0);
        int[] due = {10, 1, 0, 0, 1, 0};
        for (int what = 0; what < due.length; what++) {
            Due.is("bill(0, " + what + ")", x.bill(0, what), due[what]);
        }
        Due.is("seed", x.about(3), 30);
        Due.is("he voted", x.member(0, 2), 0);
        Due.is("he did not", x.member(1, 2), 1);
        Due.is("no acts", x.about(7), 0);
        Due.is("none to redo", x.about(8), 0);
        Due.is("undo()", x.undo(), false);
        Due.is("sniffed stay", x.about(9), 1);
        Due.is("time stays", x.about(10), 4);
        x.day();
        Due.is("gone on from, again", x.back(1), 0);
        x.shake(0);
        Due.is("undo()", x.undo(), true);
        Due.is("shaken", x.bill(0, 4), 1);
    }

    private static void p45About() {
        Due.topic("45 about");
        AyeJars x = Due.house(SHAKY + "yawn 3;draw 8;");
        x.vote(0, 0);
        x.vote(1, 2);
        x.day();
        x.day();
        x.undo();
        x.later(6);
        x.sniffed(0, 0, true);
        x.plan();
        x.feed(0, 0, 0, 0, 0);
        int[] due = {3, 3, 1, 0, 3, 4, 0, 3, 1, 1, 6, 20, 2, 3};
        due[3] = ((8 * 137 + 71) % 1000 * 137 + 71) % 1000;
        for (int what = 0; what < due.length; what++) {
            Due.is("about(" + what + ")", x.about(what), due[what]);
        }
        x.redo();
        Due.is("flat", x.about(6), 2);
        Due.is("no such what", x.about(14), -1);
        Due.is("no such what", x.about(-1), -1);
    }
}
