import java.util.function.Consumer;

/**
 * Each sentence of the document that names a boundary case of jars and acts (promises 6 to 14,
 * 43 to 45). The sentence stands ahead of its test.
 */
public final class EdgeActsTest {
    private static final String SIX = "member a breath 20;member b breath 20;member c breath 20;member d breath 20;member e breath 20;member f breath 20;";

    public static void main(String[] args) {
        jarAtFirst();
        emptyJar();
        lossOfAll();
        fadeNotTold();
        leastAndMostFade();
        eachHasItsSay();
        divisions();
        wrapping();
        truths();
        memberAsks();
        billAsks();
        voteRefused();
        seedWraps();
        yawnLimits();
        fullJar();
        shakeRefused();
        shakenOften();
        shelveRefused();
        joinRefused();
        joinLimits();
        joinEmpties();
        dayOpens();
        dayThatWas();
        dayEndsVoting();
        lastDay();
        noneToUndo();
        fortyKept();
        redoTillAnotherAct();
        eachActBothWays();
        boxes();
        backKeepsNoActs();
        aboutOther();
        Due.close("EdgeActsTest");
    }

    /** "a volume (0 at first), whose breaths are in it (none at first), an age (0 at first), a shelf (as told, at first), how often it was shaken (0 at first); it is KEPT (at first)" */
    private static void jarAtFirst() {
        Due.topic("a jar at first");
        AyeJars x = Due.house("bill a needs 1 opens 60 shelf 9;bill b needs 99 opens 1;");
        int[][] due = {{0, 0, 0, 9, 0, 0, 1, 60, 0, 0, 0}, {0, 0, 0, 0, 0, 0, 99, 1, 0, 0, 0}};
        for (int b = 0; b < 2; b++) {
            for (int what = 0; what <= 10; what++) {
                Due.is("bill(" + b + ", " + what + ")", x.bill(b, what), due[b][what]);
            }
        }
        Due.is("seed", Due.house("draw 999;").about(3), 999);
        Due.is("day", x.about(2), 0);
    }

    /** "A JAR without breaths is EMPTY."; "an EMPTY one does not [fade]"; "each that is KEPT, not EMPTY, .. its age is 1 more" */
    private static void emptyJar() {
        Due.topic("an empty jar");
        AyeJars x = Due.house("member a breath 3;bill a needs 1 opens 9;bill b needs 1 opens 9;fade 2;");
        x.vote(0, 1);
        Due.is("fades by", x.bill(0, 9), 0);
        Due.days(x, 2);
        Due.is("volume", x.bill(0, 0), 0);
        Due.is("age", x.bill(0, 2), 0);
        // one of volume 0 with a breath in it is not empty: it grows older, may be shaken and joined
        Due.is("volume", x.bill(1, 0), 0);
        Due.is("age", x.bill(1, 2), 2);
        Due.is("fades by", x.bill(1, 9), 0);
        x.day();
        Due.is("age", x.bill(1, 2), 3);
        Due.is("shaken", x.shake(1), 0);
        Due.is("joined", x.join(0, 1), 0);
        Due.is("its breath", x.bill(0, 1), 1);
        Due.is("its age", x.bill(0, 2), 3);
        Due.is("his breath is in it", x.vote(0, 0), -1);
    }

    /** "LOSS of a JAR: keeps of all whose breaths are in it together." */
    private static void lossOfAll() {
        Due.topic("loss");
        AyeJars x = Due.house("member a breath 20 keeps 9;member b breath 20 keeps 9;member c breath 20 keeps 9;member d breath 20 keeps 9;"
                + "member e breath 20 keeps 9;member f breath 20 keeps 9;bill a needs 1 opens 9;bill b needs 1 opens 9;");
        Due.is("none", x.bill(0, 8), 0);
        for (int m = 0; m < 6; m++) {
            Due.is("one more", x.vote(m, 0), 20 * (m + 1));
            Due.is("loss", x.bill(0, 8), 9 * (m + 1));
        }
        x.day();
        Due.is("120 - 54", x.bill(0, 0), 66);
        x.vote(0, 1);
        x.join(0, 1);
        Due.is("two breaths of one count once", x.bill(0, 8), 54);
        Due.is("volume", x.bill(0, 0), 86);
        x.undo();
        x.join(1, 0);
        Due.is("none is left in it", x.bill(0, 8), 0);
    }

    /** "by what comes of fade (its LOSS, if it is not told)" */
    private static void fadeNotTold() {
        Due.topic("fade not told");
        String both = "member a breath 9 keeps 4;bill a needs 1 opens 9;";
        AyeJars x = Due.house(both);
        x.vote(0, 0);
        Due.is("loss", x.bill(0, 9), 4);
        AyeJars y = Due.house(both + "fade 0;");
        y.vote(0, 0);
        Due.is("told as 0", y.bill(0, 9), 0);
        Due.is("loss is still loss", y.bill(0, 8), 4);
    }

    /** "0 at least, all its volume at most" */
    private static void leastAndMostFade() {
        Due.topic("least and most");
        fades("0 - 1", 0);
        fades("0 - 9999", 0);
        fades("0", 0);
        fades("1", 1);
        fades("volume - 1", 8);
        fades("volume", 9);
        fades("volume + 1", 9);
        fades("9999", 9);
        fades("9999 * 9999", 9);
        fades("0 - 9999 * 9999", 0);
    }

    private static void fades(String formula, int due) {
        AyeJars x = Due.house("member a breath 9 keeps 2;bill a needs 1 opens 9 shelf 3;fade " + formula + ";");
        x.vote(0, 0);
        Due.is("fade " + formula, x.bill(0, 9), due);
        x.day();
        Due.is("volume behind fade " + formula, x.bill(0, 0), 9 - due);
    }

    /** "by volume, age, loss (LOSS), shelf, shaken, day (0 at first ..)" */
    private static void eachHasItsSay() {
        Due.topic("volume, age, loss, shelf, shaken, day");
        String[] names = {"volume", "age", "loss", "shelf", "shaken", "day"};
        int[] atFirst = {9, 0, 2, 3, 0, 0};
        int[] then = {9, 2, 2, 4, 1, 3};
        for (int i = 0; i < names.length; i++) {
            AyeJars x = Due.house("member a breath 9 keeps 2;bill a needs 1 opens 9 shelf 3;bill b needs 1 opens 9 shelf 3;fade (day > 2) * " + names[i] + ";");
            AyeJars y = Due.house("member a breath 9 keeps 2;bill a needs 1 opens 9 shelf 3;fade " + names[i] + ";");
            y.vote(0, 0);
            Due.is(names[i] + " at first", y.bill(0, 9), atFirst[i]);
            x.day();
            x.vote(0, 0);
            x.shake(0);
            x.shelve(0, 4);
            Due.days(x, 2);
            Due.is(names[i] + " then", x.bill(0, 9), then[i]);
            Due.is(names[i] + " ahead", x.will(0, 1), 9 - then[i]);
            x.day();
            Due.is("volume then", x.bill(0, 0), 9 - then[i]);
            int[] jar = {9 - then[i], 1, 3, 4, 1};
            for (int what = 0; what < jar.length; what++) {
                Due.is("bill(0, " + what + ")", x.bill(0, what), jar[what]);
            }
        }
    }

    /** "/ cut, % its rest, both by 0: 0" */
    private static void divisions() {
        Due.topic("divisions");
        fades("7 / 2", 3);
        fades("5 + (0 - 7) / 2", 2);
        fades("5 + 7 / (0 - 2)", 2);
        fades("(0 - 7) / (0 - 2)", 3);
        fades("7 % 4", 3);
        fades("5 + (0 - 7) % 4", 2);
        fades("7 % (0 - 4)", 3);
        fades("5 + (0 - 7) % (0 - 4)", 2);
        fades("5 + 7 / 0", 5);
        fades("5 + 7 % 0", 5);
        fades("5 + 0 / 0", 5);
        fades("5 + 0 % 0", 5);
        fades("5 + 7 / (3 - 3)", 5);
        fades("5 + 7 % (3 - 3)", 5);
        fades("5 + 7 / age + 7 % day", 5);
        fades("1 / 2 * 8", 0);
        fades("9 - 1 - 1", 7);
        fades("9 - (1 - 1)", 9);
        fades("8 / 2 / 2", 2);
        fades("8 / (2 / 2)", 8);
        fades("9 % 5 * 2", 8);
    }

    /** "ints, wrapping" */
    private static void wrapping() {
        Due.topic("wrapping");
        String least = "(2048 * 1024 * 1024)";
        String greatest = "(2048 * 1024 * 1024 - 1)";
        fades(least + " < 0", 1);
        fades(greatest + " > 0", 1);
        fades(greatest + " + 1 = " + least, 1);
        fades("0 - " + least + " = " + least, 1);
        fades(least + " / (0 - 1) = " + least, 1);
        fades("5 + " + least + " % (0 - 1)", 5);
        fades(least + " * 2", 0);
        fades("4096 * 1024 * 1024 + 3", 3);
        fades("4096 * 1024 * 1024", 0);
        fades(greatest + " * 2 + 4", 2);
        fades(greatest, 9);
        fades(least, 0);
    }

    /** "relations, and, or, not are 1 or 0, of what is not 0" */
    private static void truths() {
        Due.topic("truths");
        fades("3 < 3", 0);
        fades("3 > 3", 0);
        fades("3 = 3", 1);
        fades("2 < 3", 1);
        fades("3 > 2", 1);
        fades("2 = 3", 0);
        fades("5 and 6", 1);
        fades("5 and 0", 0);
        fades("0 and 5", 0);
        fades("5 or 6", 1);
        fades("0 or 6", 1);
        fades("0 or 0", 0);
        fades("0 - 1 and 0 - 1", 1);
        fades("0 - 1 or 0", 1);
        fades("not 0", 1);
        fades("not 5", 0);
        fades("not 0 - 1", 0);
        fades("not not 5", 1);
        fades("not 1 < 1", 1);
        fades("not 0 and 0", 0);
        fades("not (0 and 0)", 1);
        fades("1 or 0 and 0", 1);
        fades("(1 or 0) and 0", 0);
    }

    /** "what 0: breath .. 2: 1 if he did not VOTE (nor yawned) today, else 0, 3 .., 4 ..; NONE if there is none such, or for another what." */
    private static void memberAsks() {
        Due.topic("member");
        for (int m : Twin.outside(0, 3)) {
            for (int what = -1; what <= 5; what++) {
                int asked = what;
                Twin.refused("member(" + m + ", " + what + ")", x -> x.member(m, asked));
            }
        }
        for (int what : Twin.outside(0, 4)) {
            Twin.refused("member(0, " + what + ")", x -> x.member(0, what));
        }
        AyeJars x = new AyeJars();
        Twin.busy(x);
        int[][] due = {{10, 1, 1, 6, 1}, {8, 2, 1, 5, 2}, {5, 0, 0, 0, 9}, {4, 0, 1, 7, 16}};
        for (int m = 0; m < 4; m++) {
            for (int what = 0; what < 5; what++) {
                Due.is("member(" + m + ", " + what + ")", x.member(m, what), due[m][what]);
            }
        }
        Due.is("none", new AyeJars().member(0, 0), -1);
        AyeJars sleepy = Due.house("member a breath 1;bill a needs 1 opens 9;yawn 100;");
        sleepy.vote(0, 0);
        Due.is("yawned", sleepy.member(0, 2), 0);
        Due.is("may vote for none", sleepy.member(0, 3), 0);
        sleepy.day();
        Due.is("again", sleepy.member(0, 2), 1);
        Due.is("for that again, as no breath of his is in it", sleepy.member(0, 3), 1);
    }

    /** "9: by how much it would FADE now (0 if it is not KEPT), 10: 1 if it would PASS, else 0; NONE if there is none such, or for another what." */
    private static void billAsks() {
        Due.topic("bill");
        for (int b : Twin.outside(0, 4)) {
            for (int what = -1; what <= 11; what++) {
                int asked = what;
                Twin.refused("bill(" + b + ", " + what + ")", x -> x.bill(b, asked));
            }
        }
        for (int what : Twin.outside(0, 10)) {
            Twin.refused("bill(0, " + what + ")", x -> x.bill(0, what));
        }
        AyeJars x = new AyeJars();
        Twin.busy(x);
        int[][] due = {{13, 5, 1, 0, 1, 0, 7, 9, 1, 2, 0}, {6, 2, 1, 5, 0, 0, 50, 9, 2, 2, 0}, {0, 0, 0, 0, 0, 0, 3, 9, 0, 0, 0},
            {5, 4, 1, 0, 0, 1, 5, 1, 0, 0, 0}, {4, 8, 1, 0, 0, 2, 6, 1, 0, 0, 0}};
        for (int b = 0; b < 5; b++) {
            for (int what = 0; what <= 10; what++) {
                Due.is("bill(" + b + ", " + what + ")", x.bill(b, what), due[b][what]);
            }
        }
        AyeJars y = Due.house("member a breath 9 keeps 3;bill a needs 6 opens 1;");
        y.vote(0, 0);
        Due.is("would fade", y.bill(0, 9), 3);
        Due.is("just enough", y.bill(0, 10), 1);
        y.day();
        Due.is("in force, it does not fade", y.bill(0, 9), 0);
        Due.is("in force, it would not pass any more", y.bill(0, 10), 0);
        Due.is("its loss stays", y.bill(0, 8), 3);
        Due.is("none", new AyeJars().bill(0, 0), -1);
    }

    /** "NONE, doing nothing, if he may not, or one can't be." "A MEMBER may VOTE for a BILL that is KEPT, if he did not VOTE today (nor yawned), and no breath of his is in its JAR." */
    private static void voteRefused() {
        Due.topic("vote");
        for (int m : Twin.outside(0, 3)) {
            Twin.refused("vote(" + m + ", 0)", x -> x.vote(m, 0));
        }
        for (int b : Twin.outside(0, 4)) {
            Twin.refused("vote(3, " + b + ")", x -> x.vote(3, b));
        }
        Twin.refused("neither can be", x -> x.vote(-1, -1));
        Twin.refused("his breath is in it", x -> x.vote(0, 0));
        Twin.refused("he voted today", x -> x.vote(2, 1));
        Twin.refused("he voted today for that one", x -> x.vote(2, 0));
        Twin.refused("in force", x -> x.vote(0, 3));
        Twin.refused("flat", x -> x.vote(0, 4));
        Consumer<AyeJars> yawned = x -> {
            Due.feed(x, "member a breath 9;bill a needs 1 opens 9;bill b needs 1 opens 9;yawn 100;");
            x.house();
            x.vote(0, 0);
        };
        Twin.refused("he yawned today", yawned, x -> x.vote(0, 0), -1);
        Twin.refused("he yawned today", yawned, x -> x.vote(0, 1), -1);
        Twin.refused("no house", x -> { }, x -> x.vote(0, 0), -1);
        AyeJars x = new AyeJars();
        Twin.busy(x);
        Due.is("he may", x.vote(3, 1), 10);
        Due.is("none can be redone then", x.about(8), 0);
    }

    /** "the SEED (draw, at first) becomes its 137-fold and 71 more, modulo 1,000" */
    private static void seedWraps() {
        Due.topic("seed");
        for (int draw : new int[] {0, 1, 6, 7, 13, 14, 499, 500, 998, 999}) {
            AyeJars x = Due.house("member a breath 1;bill a needs 1 opens 60;draw " + draw + ";");
            Due.is("at first", x.about(3), draw);
            x.vote(0, 0);
            Due.is("then", x.about(3), (draw * 137 + 71) % 1000);
        }
    }

    /** "if its rest by 100 is less than yawn tells, he yawned"; "yawn (0 .. 100 of 100; 0)"; "(as it was, if he yawned)" */
    private static void yawnLimits() {
        Due.topic("yawn");
        // seeds behind one vote: 71 by draw 0, 619 by 4, 80 by 657
        yawns(0, 71, false);
        yawns(0, 72, true);
        yawns(0, 0, false);
        yawns(0, 100, true);
        yawns(4, 19, false);
        yawns(4, 20, true);
        yawns(657, 80, false);
        yawns(657, 81, true);
        // 839 by 64, and the edges: 800 by 217, 99 by 44
        yawns(64, 39, false);
        yawns(64, 40, true);
        yawns(217, 0, false);
        yawns(217, 1, true);
        yawns(44, 99, false);
        yawns(44, 100, true);
    }

    private static void yawns(int draw, int yawn, boolean due) {
        AyeJars x = Due.house("member a breath 7;member b breath 5;bill a needs 1 opens 9;yawn " + yawn + ";draw " + draw + ";");
        Due.is("yawn " + yawn + ", draw " + draw, x.vote(0, 0), due ? 0 : 7);
        Due.is("breaths", x.bill(0, 1), due ? 0 : 1);
        Due.is("he did vote, or yawned", x.member(0, 2), 0);
        Due.is("an act", x.about(7), 1);
        x.undo();
        Due.is("seed", x.about(3), draw);
        Due.is("he may again", x.member(0, 3), 1);
        x.redo();
        Due.is("done again", x.bill(0, 0), due ? 0 : 7);
        Due.is("done again", x.member(0, 2), 0);
    }

    /** "its volume more by it (999 at most)" */
    private static void fullJar() {
        Due.topic("a full jar");
        AyeJars x = almostFull();
        Due.is("volume", x.bill(0, 0), 980);
        Due.is("19 more and one lost", x.vote(0, 0), 999);
        Due.is("full", x.vote(1, 0), 999);
        Due.is("its breath is in it", x.bill(0, 1) & 3, 3);
        x.undo();
        x.undo();
        Due.is("980 again", x.bill(0, 0), 980);
        Due.fraction("mean of both", x.mean(0, 3, 0), x.mean(0, 3, 1), 999, 1);
        Due.is("ripe", x.ripe(0, 3, 1), 999);
        Due.is("queue", x.queue(0), 999);
        Due.is("will", x.will(0, 60), 980);
    }

    /** 980 of c, d, e, f in the first jar; it does not fade; a and b are not in it, and may vote. */
    private static AyeJars almostFull() {
        AyeJars x = Due.house(SIX + "bill a needs 1 opens 60;bill b needs 1 opens 60;bill c needs 1 opens 60;fade 0;");
        for (int day = 0; day < 13; day++) {
            for (int m = 2; m < (day < 12 ? 6 : 3); m++) {
                x.vote(m, 1);
            }
            x.join(0, 1);
            x.day();
        }
        return x;
    }

    /** "NONE, doing nothing, if it is not KEPT, EMPTY, was shaken 99 times, or there is none such." */
    private static void shakeRefused() {
        Due.topic("shake");
        for (int b : Twin.outside(0, 4)) {
            Twin.refused("shake(" + b + ")", x -> x.shake(b));
        }
        Twin.refused("empty", x -> x.shake(2));
        Twin.refused("in force", x -> x.shake(3));
        Twin.refused("flat", x -> x.shake(4));
        Twin.refused("shaken 99 times", x -> shakeTill(x, 99), x -> x.shake(0), -1);
        Twin.refused("no house", x -> { }, x -> x.shake(0), -1);
        Twin.refused("emptied by joining", x -> {
            Twin.busy(x);
            x.join(0, 1);
        }, x -> x.shake(1), -1);
    }

    private static void shakeTill(AyeJars x, int times) {
        Due.feed(x, "member a breath 20;bill a needs 1 opens 9;bill b needs 1 opens 9;fade shaken / 10;");
        x.house();
        x.vote(0, 0);
        for (int i = 0; i < times; i++) {
            x.shake(0);
        }
    }

    /** "It is shaken: how often it was ahead of that" */
    private static void shakenOften() {
        Due.topic("shaken often");
        AyeJars x = new AyeJars();
        shakeTill(x, 98);
        Due.is("98", x.bill(0, 4), 98);
        Due.is("the 99th time", x.shake(0), 98);
        Due.is("99", x.bill(0, 4), 99);
        Due.is("no more", x.shake(0), -1);
        x.undo();
        Due.is("again", x.shake(0), 98);
        Due.is("acts", x.about(7), 40);
        Due.is("fades by it", x.bill(0, 9), 9);
    }

    /** "NONE, doing nothing, if it is not KEPT, it is the same, or one can't be." */
    private static void shelveRefused() {
        Due.topic("shelve");
        for (int b : Twin.outside(0, 4)) {
            Twin.refused("shelve(" + b + ", 1)", x -> x.shelve(b, 1));
        }
        for (int shelf : Twin.outside(0, 9)) {
            Twin.refused("shelve(0, " + shelf + ")", x -> x.shelve(0, shelf));
        }
        Twin.refused("the same", x -> x.shelve(0, 0));
        Twin.refused("the same as put", x -> x.shelve(1, 5));
        Twin.refused("in force", x -> x.shelve(3, 1));
        Twin.refused("flat", x -> x.shelve(4, 1));
        Twin.refused("no house", x -> { }, x -> x.shelve(0, 1), -1);
        AyeJars x = new AyeJars();
        Twin.busy(x);
        Due.is("an empty one may be put", x.shelve(2, 9), 0);
        Due.is("and back", x.shelve(2, 0), 9);
        Due.is("as it was told", x.shelve(1, 2), 5);
        Due.is("a shelf may hold many", x.shelve(2, 2), 0);
    }

    /** "NONE, doing nothing, if one is not KEPT, the second one EMPTY, both are one, or one can't be." */
    private static void joinRefused() {
        Due.topic("join");
        for (int b : Twin.outside(0, 4)) {
            Twin.refused("join(" + b + ", 0)", x -> x.join(b, 0));
            Twin.refused("join(0, " + b + ")", x -> x.join(0, b));
            Twin.refused("join(" + b + ", " + b + ")", x -> x.join(b, b));
        }
        Twin.refused("both are one", x -> x.join(0, 0));
        Twin.refused("both are one, empty", x -> x.join(2, 2));
        Twin.refused("the second one empty", x -> x.join(0, 2));
        Twin.refused("the first in force", x -> x.join(3, 0));
        Twin.refused("the second in force", x -> x.join(0, 3));
        Twin.refused("the first flat", x -> x.join(4, 0));
        Twin.refused("the second flat", x -> x.join(0, 4));
        Twin.refused("neither kept", x -> x.join(3, 4));
        Twin.refused("no house", x -> { }, x -> x.join(0, 1), -1);
        AyeJars x = new AyeJars();
        Twin.busy(x);
        Due.is("the first one empty", x.join(2, 0), 13);
        Due.is("now the second one is empty", x.join(2, 0), -1);
        Due.is("back again", x.join(0, 2), 13);
    }

    /** "the second one's volume (999 at most), breaths are in the first one then, too (its age the greater one, shaken both together, 99 at most)" */
    private static void joinLimits() {
        Due.topic("join's limits");
        AyeJars x = almostFull();
        x.vote(0, 1);
        x.vote(1, 2);
        Due.is("980 and 20", x.joint(0, 1), 999);
        Due.is("980 and 20", x.join(0, 1), 999);
        Due.is("999 and 20", x.join(0, 2), 999);
        Due.is("breaths", x.bill(0, 1), 63);
        Due.is("empty and 999", x.join(1, 0), 999);
        AyeJars y = new AyeJars();
        shakeTill(y, 60);
        y.day();
        y.vote(0, 1);
        for (int i = 0; i < 38; i++) {
            y.shake(1);
        }
        Due.is("60 and 38", shakenByJoining(y), 98);
        y.shake(1);
        Due.is("60 and 39", shakenByJoining(y), 99);
        y.shake(1);
        Due.is("60 and 40", shakenByJoining(y), 99);
        y.join(0, 1);
        Due.is("the greater age", y.bill(0, 2), 1);
        y.undo();
        y.join(1, 0);
        Due.is("the greater age", y.bill(1, 2), 1);
        Due.is("99 at most", y.bill(1, 4), 99);
        Due.is("no more", y.shake(1), -1);
    }

    private static int shakenByJoining(AyeJars x) {
        x.join(0, 1);
        int shaken = x.bill(0, 4);
        x.undo();
        return shaken;
    }

    /** "the second one is EMPTY, of volume 0, age 0, not shaken" */
    private static void joinEmpties() {
        Due.topic("the second one joined");
        AyeJars x = new AyeJars();
        Twin.busy(x);
        x.shake(1);
        Due.is("join", x.join(0, 1), 19);
        int[] first = {19, 7, 1, 0, 2, 0};
        int[] second = {0, 0, 0, 5, 0, 0};
        for (int what = 0; what < 6; what++) {
            Due.is("bill(0, " + what + ")", x.bill(0, what), first[what]);
            Due.is("bill(1, " + what + ")", x.bill(1, what), second[what]);
        }
        Due.is("who was in it may vote for it again", x.vote(1, 1), 8);
        Due.is("a fresh breath is of age 0", x.bill(1, 2), 0);
    }

    /** "each that is KEPT and opens on the new day is in FORCE, if its volume is what it needs at least, else FLAT"; "BILLS that came into FORCE on it, as bits" */
    private static void dayOpens() {
        Due.topic("a day opens");
        AyeJars x = Due.house("member a breath 9 keeps 1;member b breath 8 keeps 1;member c breath 7 keeps 1;"
                + "bill a needs 7 opens 1;bill b needs 7 opens 1;bill c needs 7 opens 1;bill d needs 1 opens 1;bill e needs 1 opens 2;");
        x.vote(0, 0);
        x.vote(1, 1);
        x.vote(2, 2);
        Due.is("8 of 7, 7 of 7, 6 of 7, 0 of 1", x.day(), 3);
        Due.is("force", x.about(5), 3);
        Due.is("flat, the empty one, too", x.about(6), 12);
        Due.is("not yet", x.bill(4, 5), 0);
        Due.is("none of it", x.day(), 0);
        Due.is("force", x.about(5), 3);
        Due.is("flat", x.about(6), 28);
        Due.is("none is left", x.day(), 0);
        Due.is("it stays", x.bill(0, 0), 8);
        Due.is("its age", x.bill(0, 2), 1);
        AyeJars last = Due.house("member a breath 1;bill a needs 1 opens 60;");
        last.vote(0, 0);
        Due.days(last, 59);
        Due.is("kept on day 59", last.bill(0, 5), 0);
        Due.is("the last day of all", last.day(), 1);
    }

    /** "FADES (by the day that was), its age is 1 more" */
    private static void dayThatWas() {
        Due.topic("the day that was");
        AyeJars x = Due.house("member a breath 20;bill a needs 1 opens 9;fade (day + 1) * 3 + age;");
        x.vote(0, 0);
        Due.is("would fade", x.bill(0, 9), 3);
        x.day();
        Due.is("day 0, age 0", x.bill(0, 0), 17);
        Due.is("would fade", x.bill(0, 9), 7);
        x.day();
        Due.is("day 1, age 1", x.bill(0, 0), 10);
        x.day();
        Due.is("day 2, age 2: all that is left", x.bill(0, 0), 0);
    }

    /** "all may VOTE again" */
    private static void dayEndsVoting() {
        Due.topic("all may vote again");
        AyeJars x = Due.house(SIX + "bill a needs 1 opens 9;bill b needs 1 opens 9;");
        for (int m = 0; m < 6; m++) {
            x.vote(m, m % 2);
            Due.is("not now", x.member(m, 2), 0);
        }
        x.day();
        for (int m = 0; m < 6; m++) {
            Due.is("again", x.member(m, 2), 1);
            Due.is("for the other one", x.member(m, 3), 2 - m % 2);
        }
    }

    /** "NONE, doing nothing, behind 999 of them." (No object is asked so much; it holds all the same.) */
    private static void lastDay() {
        Due.topic("the last day");
        AyeJars x = Due.house("member a breath 9;bill a needs 1 opens 60;");
        for (int i = 1; i <= 999; i++) {
            Due.is("a day", x.day(), 0);
        }
        Due.is("day", x.about(2), 999);
        Due.is("no more", x.day(), -1);
        Due.is("day", x.about(2), 999);
        Due.is("acts", x.about(7), 40);
        x.undo();
        Due.is("none was lost", x.about(8), 1);
    }

    /** "UNDO: true; false if there is none."; "REDO: true; false if there is none." */
    private static void noneToUndo() {
        Due.topic("none to undo or redo");
        Twin.refused("undo() of none", x -> { }, x -> x.undo() ? 1 : 0, 0);
        Twin.refused("redo() of none", x -> { }, x -> x.redo() ? 1 : 0, 0);
        Consumer<AyeJars> done = x -> {
            Twin.busy(x);
            x.redo();
        };
        Twin.refused("redo() of none", done, x -> x.redo() ? 1 : 0, 0);
        Consumer<AyeJars> undone = x -> {
            Twin.busy(x);
            for (int i = 0; i < 8; i++) {
                Due.is("undo()", x.undo(), true);
            }
        };
        Twin.refused("undo() of none", undone, x -> x.undo() ? 1 : 0, 0);
        AyeJars x = new AyeJars();
        undone.accept(x);
        Due.is("all are to be redone", x.about(8), 9);
    }

    /** "40 at most are kept, the oldest go" */
    private static void fortyKept() {
        Due.topic("forty");
        for (int acts : new int[] {1, 39, 40, 41, 42, 79, 80, 81, 82, 83, 84, 120, 170}) {
            // by sevens, so that shelves differ that are 40 or 41 acts apart
            AyeJars x = Due.house("bill a needs 1 opens 9;");
            for (int i = 1; i <= acts; i++) {
                x.shelve(0, i % 7);
            }
            int kept = Math.min(acts, 40);
            Due.is("kept of " + acts, x.about(7), kept);
            for (int i = 1; i <= kept; i++) {
                Due.is("undo()", x.undo(), true);
                Due.is("shelf", x.bill(0, 3), (acts - i) % 7);
            }
            Due.is("none", x.undo(), false);
            Due.is("shelf", x.bill(0, 3), (acts - kept) % 7);
            Due.is("redone", x.about(8), kept);
            for (int i = acts - kept + 1; i <= acts; i++) {
                Due.is("redo()", x.redo(), true);
                Due.is("shelf", x.bill(0, 3), i % 7);
            }
            Due.is("none", x.redo(), false);
            Due.is("kept still", x.about(7), kept);
        }
    }

    /** "REDO does that again which was taken back last (till another ACT)" */
    private static void redoTillAnotherAct() {
        Due.topic("till another act");
        Consumer<AyeJars> told = x -> {
            Twin.busy(x);
            x.undo();
        };
        AyeJars x = new AyeJars();
        told.accept(x);
        Due.is("two", x.about(8), 2);
        Due.is("that which was taken back last comes first", x.redo(), true);
        Due.is("shelf", x.bill(1, 3), 5);
        Due.is("shaken", x.bill(1, 4), 0);
        Due.is("then the other", x.redo(), true);
        Due.is("shaken", x.bill(1, 4), 1);
        for (int act = 0; act < 6; act++) {
            AyeJars y = new AyeJars();
            told.accept(y);
            act(y, act);
            Due.is("act " + act + " ends it", y.about(8), 0);
            Due.is("act " + act + " ends it", y.redo(), false);
            Due.is("act " + act + " is kept", y.about(7), 8);
        }
        AyeJars z = new AyeJars();
        told.accept(z);
        z.image(0);
        z.sniffed(3, 4, false);
        z.untell(0);
        z.later(1);
        z.feed(0, 0, 0, 0, 0);
        z.end(3);
        z.house();
        Due.is("what is no act ends nothing", z.about(8), 2);
        Due.is("nor is it kept", z.about(7), 7);
        Due.is("redo()", z.redo(), true);
    }

    private static void act(AyeJars x, int act) {
        switch (act) {
            case 0 -> x.vote(3, 2);
            case 1 -> x.shake(0);
            case 2 -> x.shelve(0, 4);
            case 3 -> x.join(0, 1);
            case 4 -> x.join(2, 0);
            default -> x.day();
        }
    }

    /** "UNDO takes back the latest ACT that was not": each of them, wholly. */
    private static void eachActBothWays() {
        Due.topic("each act undone and redone");
        for (int act = 0; act < 6; act++) {
            int number = act;
            Consumer<AyeJars> told = x -> {
                Twin.busy(x);
                act(x, number);
            };
            Twin.refused("act " + act + " undone, redone", told, x -> (x.undo() ? 2 : 0) + (x.redo() ? 1 : 0), 3);
        }
    }

    /** "kept in a BOX 0 .. 2: the day; NONE if there is none such."; "NONE, doing nothing, if nothing was." */
    private static void boxes() {
        Due.topic("boxes");
        for (int box : Twin.outside(0, 2)) {
            Twin.refused("image(" + box + ")", x -> x.image(box));
            Twin.refused("back(" + box + ")", x -> x.back(box));
        }
        Twin.refused("nothing was kept", x -> x.back(0));
        Twin.refused("nothing was kept", x -> x.back(2));
        AyeJars x = new AyeJars();
        Due.is("of no house", x.image(2), 0);
        x.day();
        Due.is("back", x.back(2), 0);
        Due.is("day", x.about(2), 0);
        Twin.busy(x);
        for (int box = 0; box < 3; box++) {
            Due.is("image", x.image(box), 1 + box);
            x.day();
        }
        for (int box = 0; box < 3; box++) {
            Due.is("back, though twice", x.back(box), 1 + box);
            Due.is("back, though twice", x.back(box), 1 + box);
        }
        Due.is("a full box is told anew", x.image(0), 3);
        Due.is("anew", x.back(0), 3);
        Due.is("the others stay", x.back(1), 2);
    }

    /** "JARS, what BILLS are, who VOTED today, the day, the SEED are kept"; "All is as it was kept (no ACTS are kept then)" */
    private static void backKeepsNoActs() {
        Due.topic("back");
        AyeJars x = new AyeJars();
        Twin.busy(x);
        x.image(0);
        int seed = x.about(3);
        x.vote(0, 2);
        x.join(0, 1);
        Due.days(x, 8);
        x.undo();
        Due.is("acts", x.about(7) > 0 && x.about(8) > 0, true);
        Due.is("back", x.back(0), 1);
        Due.is("no acts", x.about(7), 0);
        Due.is("none taken back", x.about(8), 0);
        Due.is("undo()", x.undo(), false);
        Due.is("redo()", x.redo(), false);
        Due.is("seed", x.about(3), seed);
        Due.is("c voted", x.member(2, 2), 0);
        Due.is("a did not", x.member(0, 2), 1);
        int[][] due = {{13, 5, 1, 0, 1, 0}, {6, 2, 1, 5, 0, 0}, {0, 0, 0, 0, 0, 0}, {5, 4, 1, 0, 0, 1}, {4, 8, 1, 0, 0, 2}};
        for (int b = 0; b < 5; b++) {
            for (int what = 0; what < 6; what++) {
                Due.is("bill(" + b + ", " + what + ")", x.bill(b, what), due[b][what]);
            }
        }
        Due.is("sniffed stay", x.about(9), 1);
        Due.is("what lies there stays", x.about(13), 4);
        Due.is("the tape stays", x.about(11), 20);
        x.shake(0);
        Due.is("what is done then can be undone", x.undo(), true);
        Due.is("to what was kept", x.undo(), false);
        Due.is("shaken", x.bill(0, 4), 1);
    }

    /** "NONE for another what." */
    private static void aboutOther() {
        Due.topic("about");
        for (int what : Twin.outside(0, 13)) {
            Twin.refused("about(" + what + ")", x -> x.about(what));
        }
        AyeJars x = new AyeJars();
        Twin.busy(x);
        int seed = 3;
        for (int votes = 0; votes < 5; votes++) {
            seed = (seed * 137 + 71) % 1000;
        }
        int[] due = {4, 5, 1, seed, 0, 8, 16, 8, 1, 1, 2, 20, 2, 4};
        for (int what = 0; what < due.length; what++) {
            Due.is("about(" + what + ")", x.about(what), due[what]);
        }
    }
}
