import java.util.function.Consumer;
import java.util.function.ToIntFunction;

/**
 * Each sentence of the document that names a boundary case of what lies ahead (promises 15 to 36).
 * The sentence stands ahead of its test.
 */
public final class EdgeAheadTest {
    private static final String TWO = "member a breath 9 keeps 2;member b breath 8 keeps 1;";

    public static void main(String[] args) {
        nothingIsDone();
        nobodyYawns();
        beyondTheLastDay();
        passOnItsDay();
        willLimits();
        willGoesOn();
        dullLimits();
        musterRefused();
        musterOfFewest();
        latestRefused();
        latestLimits();
        planOfNone();
        planOfLikeOnes();
        powerRefused();
        powerTerms();
        powerAsIfEmpty();
        bestRefused();
        bestOfLikeOnes();
        jointRefused();
        jointOnFirstDay();
        lawLimits();
        oddsRefused();
        oddsTerms();
        meanRefused();
        meanTerms();
        ripeRefused();
        ripeLimits();
        queueRefused();
        queueLimits();
        spoilRefused();
        spoilLimits();
        sabotageRefused();
        sabotageLimits();
        sabotageOfLikeOnes();
        wastedEdges();
        richestEdges();
        matchesEdges();
        brittleEdges();
        longestRefused();
        longestEdges();
        liesEdges();
        Due.close("EdgeAheadTest");
    }

    /** A house, and all that is done in it. */
    private static AyeJars told(String text, int... votes) {
        AyeJars x = Due.house(text);
        for (int i = 0; i + 1 < votes.length; i += 2) {
            Due.is("vote(" + votes[i] + ", " + votes[i + 1] + ")", x.vote(votes[i], votes[i + 1]) >= 0, true);
        }
        return x;
    }

    /** Bills that can't be, one in force, one flat: NONE, and nothing is done. */
    private static void refusedBills(String name, Asked question) {
        for (int b : Twin.outside(0, 4)) {
            Twin.refused(name + " of " + b, x -> question.of(x, b));
        }
        Twin.refused(name + " in force", x -> question.of(x, 3));
        Twin.refused(name + " flat", x -> question.of(x, 4));
        Twin.refused(name + " without a house", x -> { }, x -> question.of(x, 0), -1);
    }

    private interface Asked {
        int of(AyeJars x, int n);
    }

    /** "By what is now; nothing is done" */
    private static void nothingIsDone() {
        Due.topic("nothing is done");
        Consumer<AyeJars> busy = Twin::busy;
        Twin.asked("will", busy, x -> x.will(0, 3), 7);
        Twin.asked("dull", busy, x -> x.dull(0), 4);
        Twin.asked("pass", busy, AyeJars::pass, 0);
        Twin.asked("muster", busy, x -> x.muster(2, 1), 8);
        Twin.asked("latest", busy, x -> x.latest(3, 2), 7);
        Twin.asked("plan", busy, AyeJars::plan, 1);
        // d is pivot as the first (6), right behind a (2), and as the last (6): 14 of 24
        Twin.asked("power", busy, x -> x.power(3, 2, 0), 7);
        Twin.asked("power", busy, x -> x.power(3, 2, 1), 12);
        Twin.asked("best", busy, x -> x.best(0), 0);
        Twin.asked("joint", busy, x -> x.joint(0, 1), 0);
        Twin.asked("law", busy, x -> x.law(-7), 2);
        Twin.asked("odds", busy, x -> x.odds(2, 8, 0), 1);
        Twin.asked("mean", busy, x -> x.mean(2, 8, 0), 4);
        Twin.asked("ripe", busy, x -> x.ripe(1, 5, 1), 12);
        // 5, 9, 19 - 1, 26 - 3, then 4 days of 3
        Twin.asked("queue", busy, x -> x.queue(2), 11);
        Twin.asked("spoil", busy, x -> x.spoil(0), 0);
        Twin.asked("sabotage", busy, x -> x.sabotage(3), 0);
        Twin.asked("wasted", busy, AyeJars::wasted, 19);
        Twin.asked("richest", busy, AyeJars::richest, 0);
        Twin.asked("matches", busy, AyeJars::matches, 0);
        Twin.asked("brittle", busy, AyeJars::brittle, 0);
        Twin.asked("longest", busy, x -> x.longest(60), 2);
    }

    /** "nobody yawns, if not told otherwise" */
    private static void nobodyYawns() {
        Due.topic("nobody yawns");
        AyeJars x = told("member a breath 9;member b breath 8;bill a needs 9 opens 3;bill b needs 17 opens 3;yawn 100;");
        Due.is("muster", x.muster(1, 0), 2);
        Due.is("latest", x.latest(0, 0), 2);
        Due.is("plan", x.plan(), 1);
        Due.fraction("power", x.power(0, 0, 0), x.power(0, 0, 1), 1, 1);
        Due.is("ripe", x.ripe(1, 3, 1), 17);
        Due.is("queue", x.queue(1), 17);
        Due.is("longest", x.longest(9), 0);
        Due.is("told otherwise: odds", x.odds(0, 1, 0), 0);
        Due.is("told otherwise: mean", x.mean(0, 1, 0), 0);
        Due.is("seed", x.about(3), 0);
    }

    /** "What lies ahead goes on as told beyond the last one that can be done, too." (No object is asked so much; it holds all the same.) */
    private static void beyondTheLastDay() {
        Due.topic("beyond the last day");
        AyeJars x = Due.house("member a breath 9;member b breath 8 keeps 1;fade (loss = 0) * (day = 1010) * 5;");
        Due.days(x, 999);
        Due.is("day 1010 is still ahead", x.longest(11), 0);
        Due.is("9 - 5 behind it", x.longest(12), 1);
    }

    /** "A BILL would PASS, if it is KEPT, and came into FORCE on its day, nobody voting any more" */
    private static void passOnItsDay() {
        Due.topic("pass");
        Due.is("no bills", new AyeJars().pass(), 0);
        AyeJars x = told(TWO + "bill a needs 5 opens 2;bill b needs 6 opens 2;bill c needs 1 opens 2;", 0, 0, 1, 1);
        Due.is("9 - 4 is just enough, 8 - 2, too, none is not", x.pass(), 3);
        x.day();
        Due.is("still", x.pass(), 3);
        x.day();
        Due.is("they came into force: none any more", x.pass(), 0);
        AyeJars y = told(TWO + "bill a needs 6 opens 2;bill b needs 7 opens 2;", 0, 0, 1, 1);
        Due.is("one too few each", y.pass(), 0);
        AyeJars far = told("member a breath 1;bill a needs 1 opens 60;", 0, 0);
        Due.is("60 days", far.pass(), 1);
        AyeJars lost = told("member a breath 1;bill a needs 1 opens 60;fade day = 59;", 0, 0);
        Due.is("lost on the last of them", lost.pass(), 0);
        AyeJars behind = told("member a breath 1;bill a needs 1 opens 59;fade day = 59;", 0, 0);
        Due.is("lost behind its day", behind.pass(), 1);
    }

    /** "WILL (n 0 .. 60); NONE if it is not KEPT, or one can't be." */
    private static void willLimits() {
        Due.topic("will");
        refusedBills("will", (x, b) -> x.will(b, 0));
        for (int n : Twin.outside(0, 60)) {
            if (n < 0 || n > 60) {
                Twin.refused("will(0, " + n + ")", x -> x.will(0, n));
            }
        }
        AyeJars x = told("member a breath 20;bill a needs 1 opens 60;fade day = 59;", 0, 0);
        Due.is("will(0, 0)", x.will(0, 0), 20);
        Due.is("will(0, 59)", x.will(0, 59), 20);
        Due.is("will(0, 60)", x.will(0, 60), 19);
    }

    /** "WILL: a JAR's volume behind n DAYS, as if it were not opened." */
    private static void willGoesOn() {
        Due.topic("will goes on");
        AyeJars x = told("member a breath 20;bill a needs 1 opens 1;bill b needs 1 opens 1;fade age + 1;", 0, 0);
        int[] due = {20, 19, 17, 14, 10, 5, 0, 0};
        for (int n = 0; n < due.length; n++) {
            Due.is("will(0, " + n + ")", x.will(0, n), due[n]);
            Due.is("an empty one", x.will(1, n), 0);
        }
    }

    /** "DULL: behind how many DAYS its volume is below what it needs."; "(0 .. 60); NONE if it never is, it is not KEPT, or there is none such." */
    private static void dullLimits() {
        Due.topic("dull");
        refusedBills("dull", AyeJars::dull);
        String two = "member a breath 2;bill a needs 2 opens 1;bill b needs 3 opens 1;bill c needs 1 opens 1;fade day = ";
        Due.is("on day 59", told(two + "59;", 0, 0).dull(0), 60);
        Due.is("on day 60", told(two + "60;", 0, 0).dull(0), -1);
        Due.is("on day 0", told(two + "0;", 0, 0).dull(0), 1);
        Due.is("just what it needs is not below", told(two + "3;", 0, 2).dull(2), -1);
        Due.is("never", told(two + "99;", 0, 0).dull(0), -1);
        Due.is("now", told(two + "99;", 0, 1).dull(1), 0);
        Due.is("empty", told(two + "99;").dull(2), 0);
    }

    /** "MUSTER what 0: how many (0 if it PASSES), 1: which, as bits; NONE if all are not enough, it is not KEPT, or one can't be." */
    private static void musterRefused() {
        Due.topic("muster");
        refusedBills("muster", (x, b) -> x.muster(b, 0));
        refusedBills("muster", (x, b) -> x.muster(b, 1));
        for (int what : Twin.outside(0, 1)) {
            Twin.refused("muster(2, " + what + ")", x -> x.muster(2, what));
        }
        AyeJars x = told(TWO + "bill a needs 17 opens 1;bill b needs 14 opens 1;bill c needs 9 opens 9;", 0, 2);
        Due.is("all are not enough", x.muster(0, 0), -1);
        Due.is("all are not enough", x.muster(0, 1), -1);
        x.undo();
        Due.is("all are just enough", x.muster(1, 0), 2);
        Due.is("all are just enough", x.muster(1, 1), 3);
        Due.is("no members", told("bill a needs 1 opens 1;").muster(0, 0), -1);
        AyeJars y = told("member a breath 9;bill a needs 9 opens 1;", 0, 0);
        Due.is("it passes", y.muster(0, 0), 0);
        Due.is("nobody has to", y.muster(0, 1), 0);
    }

    /** "the fewest MEMBERS who may VOTE for it now and would have to, so that it PASSES; of like ones the least set as bits" */
    private static void musterOfFewest() {
        Due.topic("the fewest");
        String six = "member a breath 1;member b breath 2;member c breath 3;member d breath 3;member e breath 2;member f breath 6;";
        AyeJars x = told(six + "bill a needs 6 opens 1;bill b needs 5 opens 1;bill c needs 17 opens 1;bill d needs 1 opens 1;bill e needs 18 opens 1;");
        Due.is("f alone", x.muster(0, 1), 32);
        Due.is("f alone", x.muster(1, 1), 32);
        Due.is("all", x.muster(2, 0), 6);
        Due.is("which", x.muster(2, 1), 63);
        Due.is("of all six the first", x.muster(3, 1), 1);
        Due.is("18 of 17", x.muster(4, 0), -1);
        x.vote(5, 4);
        Due.is("f voted today: c and d", x.muster(0, 1), 12);
        Due.is("b and c", x.muster(1, 1), 6);
        Due.is("not enough without f", x.muster(2, 0), -1);
        Due.is("f is in it, 11 are left of 12", x.muster(4, 0), -1);
        x.undo();
        x.vote(0, 3);
        x.vote(1, 3);
        Due.is("it passes", x.muster(3, 0), 0);
        x.day();
        Due.is("not kept", x.muster(3, 0), -1);
    }

    /** "NONE if there is none such, it is not KEPT, his is in it, or one can't be." */
    private static void latestRefused() {
        Due.topic("latest");
        refusedBills("latest", (x, b) -> x.latest(3, b));
        for (int m : Twin.outside(0, 3)) {
            Twin.refused("latest(" + m + ", 2)", x -> x.latest(m, 2));
        }
        Twin.refused("his is in it", x -> x.latest(0, 0));
        Twin.refused("never enough", x -> x.latest(0, 1));
    }

    /** "the greatest number of DAYS behind which (ahead of its day) his VOTE alone would make it PASS"; "(0: today)"; "(If he may not VOTE today any more, 1 at least.)" */
    private static void latestLimits() {
        Due.topic("the latest day");
        Due.is("opens tomorrow: today", told("member a breath 1;bill a needs 1 opens 1;").latest(0, 0), 0);
        Due.is("the last day ahead of it", told("member a breath 1;bill a needs 1 opens 60;").latest(0, 0), 59);
        AyeJars x = told("member a breath 1;bill a needs 1 opens 60;");
        Due.days(x, 59);
        Due.is("its day is tomorrow", x.latest(0, 0), 0);
        // what is below 10 is lost at once
        String today = "member a breath 5;member b breath 5;bill a needs 10 opens 3;bill b needs 1 opens 9;bill c needs 1 opens 9;fade (volume < 10) * 5;";
        AyeJars y = told(today, 1, 0);
        Due.is("today alone", y.latest(0, 0), 0);
        y.vote(0, 1);
        Due.is("he may not any more", y.latest(0, 0), -1);
        Due.is("never enough", y.latest(0, 2), -1);
        AyeJars z = told("member a breath 5;bill a needs 5 opens 2;bill b needs 1 opens 9;", 0, 1);
        Due.is("he voted today: tomorrow", z.latest(0, 0), 1);
        AyeJars tomorrow = told("member a breath 5;bill a needs 5 opens 1;bill b needs 1 opens 9;", 0, 1);
        Due.is("he voted today, and tomorrow it opens", tomorrow.latest(0, 0), -1);
        AyeJars sleepy = told("member a breath 5;bill a needs 5 opens 2;yawn 100;", 0, 0);
        Due.is("he yawned today", sleepy.latest(0, 0), 1);
        AyeJars gap = told("member a breath 5;bill a needs 5 opens 4;fade day = 3;");
        Due.is("each breath fades on the last day", gap.latest(0, 0), -1);
        AyeJars held = told("member a breath 5;member b breath 5;bill a needs 9 opens 4;fade (day = 1) * (volume < 10) * 5 + (day = 3);", 1, 0);
        Due.is("behind day 1 it would be lost", held.latest(0, 0), 1);
    }

    /** "PLAN: how many PASS then. The BILL of each MEMBER lies there then (NONE: none)." */
    private static void planOfNone() {
        Due.topic("plan");
        AyeJars none = new AyeJars();
        Due.is("no house", none.plan(), 0);
        Due.lying(none);
        AyeJars billsAlone = told("bill a needs 1 opens 1;");
        Due.is("no members", billsAlone.plan(), 0);
        Due.lying(billsAlone);
        AyeJars membersAlone = told("member a breath 1;member b breath 1;");
        Due.is("no bills", membersAlone.plan(), 0);
        Due.lying(membersAlone, -1, -1);
        AyeJars x = told(TWO + "bill a needs 8 opens 1;bill b needs 7 opens 1;", 0, 0);
        Due.is("a voted, b may", x.plan(), 1);
        Due.lying(x, -1, 0);
        x.vote(1, 1);
        Due.is("all voted", x.plan(), 1);
        Due.lying(x, -1, -1);
        x.day();
        Due.is("none is kept", x.plan(), 0);
        Due.lying(x, -1, -1);
        AyeJars can = told(TWO + "bill a needs 99 opens 1;bill b needs 98 opens 1;");
        Due.is("none can pass", can.plan(), 0);
        Due.lying(can, -1, -1);
    }

    /** "so that most PASS; of like ones that of the fewest VOTES; of like ones the first (MEMBER by MEMBER: none, then BILLS)" */
    private static void planOfLikeOnes() {
        Due.topic("like plans");
        AyeJars x = told("member a breath 5;member b breath 5;member c breath 5;bill a needs 5 opens 1;bill b needs 5 opens 1;");
        Due.is("two of three members", x.plan(), 2);
        Due.lying(x, -1, 0, 1);
        AyeJars y = told("member a breath 5;member b breath 5;member c breath 5;bill a needs 10 opens 1;bill b needs 5 opens 1;");
        Due.is("both", y.plan(), 2);
        Due.lying(y, 0, 0, 1);
        AyeJars z = told("member a breath 5;member b breath 5;bill a needs 10 opens 1;bill b needs 5 opens 1;bill c needs 5 opens 1;");
        Due.is("two by two rather than one", z.plan(), 2);
        Due.lying(z, 1, 2);
        AyeJars one = told("member a breath 5;member b breath 5;bill a needs 10 opens 1;bill b needs 5 opens 1;");
        Due.is("one by one rather than by two", one.plan(), 1);
        Due.lying(one, -1, 1);
        // a breath that is in it already may not come again
        AyeJars in = told("member a breath 5;member b breath 4;bill a needs 9 opens 2;bill b needs 5 opens 2;", 0, 0);
        in.day();
        Due.is("b for the first, a for the second", in.plan(), 2);
        Due.lying(in, 1, 0);
        AyeJars fewer = told("member a breath 10;member b breath 5;member c breath 5;bill a needs 10 opens 1;");
        fewer.sabotage(3);
        Due.is("b and c would be the first, but a is one alone", fewer.plan(), 1);
        Due.lying(fewer, 0, -1, -1);
        AyeJars now = told("member a breath 9 keeps 2;member b breath 5;bill a needs 6 opens 2;bill b needs 5 opens 2;");
        Due.is("they vote now: 9 - 4", now.plan(), 1);
        Due.lying(now, -1, 1);
        AyeJars most = told("member a breath 1;member b breath 1;member c breath 1;member d breath 1;member e breath 1;member f breath 1;"
                + "bill a needs 1 opens 1;bill b needs 1 opens 1;bill c needs 1 opens 1;bill d needs 1 opens 1;bill e needs 2 opens 1;");
        most.sabotage(3);
        Due.is("all five by all six", most.plan(), 5);
        Due.lying(most, 0, 1, 2, 3, 4, 4);
    }

    /** "in lowest terms (0 of 1); NONE if it is not KEPT, or one can't be." */
    private static void powerRefused() {
        Due.topic("power");
        for (int part = 0; part < 2; part++) {
            int asked = part;
            refusedBills("power", (x, b) -> x.power(0, b, asked));
            for (int m : Twin.outside(0, 3)) {
                Twin.refused("power(" + m + ", 0)", x -> x.power(m, 0, asked));
            }
        }
        for (int part : Twin.outside(0, 1)) {
            Twin.refused("power(0, 0, " + part + ")", x -> x.power(0, 0, part));
        }
    }

    private static void powerTerms() {
        Due.topic("power's terms");
        AyeJars one = told("member a breath 5;bill a needs 5 opens 1;bill b needs 6 opens 1;");
        Due.fraction("all", one.power(0, 0, 0), one.power(0, 0, 1), 1, 1);
        Due.fraction("none", one.power(0, 1, 0), one.power(0, 1, 1), 0, 1);
        AyeJars six = told("member a breath 5;member b breath 5;member c breath 5;member d breath 5;member e breath 5;member f breath 5;"
                + "bill a needs 30 opens 1;bill b needs 1 opens 1;bill c needs 31 opens 1;bill d needs 15 opens 1;");
        for (int m = 0; m < 6; m++) {
            for (int b = 0; b < 4; b++) {
                Due.fraction("power(" + m + ", " + b + ")", six.power(m, b, 0), six.power(m, b, 1), b == 2 ? 0 : 1, b == 2 ? 1 : 6);
            }
        }
        AyeJars veto = told("member a breath 4;member b breath 1;member c breath 1;member d breath 1;bill a needs 5 opens 1;");
        Due.fraction("a is not the first: 3 of 4", veto.power(0, 0, 0), veto.power(0, 0, 1), 3, 4);
        Due.fraction("b is right behind a, in front", veto.power(1, 0, 0), veto.power(1, 0, 1), 1, 12);
    }

    /** "as if it were EMPTY (age 0, shaken as it is)" */
    private static void powerAsIfEmpty() {
        Due.topic("as if it were empty");
        AyeJars x = told("member a breath 9;member b breath 9;bill a needs 9 opens 9;bill b needs 1 opens 3;fade (age > 6) * 9 + (shaken > 1) * 9 + (shelf = 4) * 9;", 0, 0);
        Due.days(x, 2);
        // today is day 2 and it opens on day 9: an age of 6 at the last day is reached from 0, one of 8 from 2
        Due.is("it would not pass as it is", x.bill(0, 10), 0);
        Due.fraction("age 0", x.power(0, 0, 0), x.power(0, 0, 1), 1, 2);
        x.shake(0);
        Due.fraction("once", x.power(1, 0, 0), x.power(1, 0, 1), 1, 2);
        x.shake(0);
        Due.fraction("shaken as it is", x.power(1, 0, 0), x.power(1, 0, 1), 0, 1);
        x.undo();
        x.shelve(0, 4);
        Due.fraction("on its shelf", x.power(1, 0, 0), x.power(1, 0, 1), 0, 1);
        x.shelve(0, 3);
        x.vote(0, 1);
        x.vote(1, 1);
        Due.fraction("whoever voted", x.power(1, 0, 0), x.power(1, 0, 1), 1, 2);
    }

    /** "SHELF; NONE if it is not KEPT, or there is none such." */
    private static void bestRefused() {
        Due.topic("best");
        refusedBills("best", AyeJars::best);
    }

    /** "the shelf 0 .. 9 on which a JAR's volume would be most on its day; of like ones the first" */
    private static void bestOfLikeOnes() {
        Due.topic("like shelves");
        String head = "member a breath 20;bill a needs 1 opens 2 shelf 6;bill b needs 1 opens 2;fade ";
        Due.is("empty", told(head + "9 - shelf;").best(0), 0);
        Due.is("no say", told(head + "3;", 0, 0).best(0), 0);
        Due.is("the last", told(head + "9 - shelf;", 0, 0).best(0), 9);
        Due.is("the first", told(head + "shelf;", 0, 0).best(0), 0);
        Due.is("of 4 .. 9", told(head + "shelf < 4;", 0, 0).best(0), 4);
        Due.is("all is lost on all", told(head + "99;", 0, 0).best(0), 0);
        Due.is("behind its day has no say", told(head + "(day > 1) * (9 - shelf);", 0, 0).best(0), 0);
        Due.is("one day ahead has", told(head + "(day > 0) * (9 - shelf);", 0, 0).best(0), 9);
    }

    /** "JOINT; NONE if one is not KEPT, the second one is EMPTY, both are one, or one can't be." */
    private static void jointRefused() {
        Due.topic("joint");
        refusedBills("joint, the first", (x, b) -> x.joint(b, 0));
        refusedBills("joint, the second", (x, b) -> x.joint(0, b));
        Twin.refused("both are one", x -> x.joint(0, 0));
        Twin.refused("both are one, empty", x -> x.joint(2, 2));
        Twin.refused("the second one empty", x -> x.joint(0, 2));
        Twin.refused("none kept", x -> x.joint(3, 4));
    }

    /** "JOINT of two: the volume of both joined on the first one's day." */
    private static void jointOnFirstDay() {
        Due.topic("joint on the first one's day");
        AyeJars x = told("member a breath 9 keeps 1;member b breath 8 keeps 2;bill a needs 1 opens 1;bill b needs 1 opens 4 shelf 1;bill c needs 1 opens 2;", 0, 0, 1, 1);
        Due.is("17 - 3", x.joint(0, 1), 14);
        Due.is("17 - 12", x.joint(1, 0), 5);
        Due.is("into an empty one, 9 - 2", x.joint(2, 0), 7);
        Due.is("as it comes", x.join(1, 0), 17);
        Due.days(x, 3);
        Due.is("as it comes", x.bill(1, 0), 8);
        Due.is("one more", x.will(1, 1), 5);
    }

    /** "LAW (n -99 .. 99); NONE for another n." "how many KEPT BILLS would PASS, if each needed n more" */
    private static void lawLimits() {
        Due.topic("law");
        for (int n : Twin.outside(-99, 99)) {
            if (n < -99 || n > 99) {
                Twin.refused("law(" + n + ")", x -> x.law(n));
            }
        }
        AyeJars x = told("member a breath 20;bill a needs 20 opens 1;bill b needs 99 opens 1;bill c needs 1 opens 1;", 0, 0);
        Due.is("as it is", x.law(0), 1);
        Due.is("one more", x.law(1), 0);
        Due.is("one less: an empty one needs none", x.law(-1), 2);
        Due.is("98 less", x.law(-98), 2);
        Due.is("99 less", x.law(-99), 3);
        Due.is("99 more", x.law(99), 0);
        x.day();
        Due.is("none is kept", x.law(-99), 0);
        Due.is("no bills", new AyeJars().law(-99), 0);
    }

    /** "NONE if there are more than 4, one may not VOTE for it, or one can't be." */
    private static void oddsRefused() {
        Due.topic("odds");
        refusedBills("odds", (x, b) -> x.odds(b, 1, 0));
        for (int set : Twin.outside(0, 15)) {
            Twin.refused("odds of the set " + set, x -> x.odds(2, set, 0));
        }
        for (int part : Twin.outside(0, 1)) {
            Twin.refused("odds' part " + part, x -> x.odds(2, 1, part));
        }
        Twin.refused("c voted today", x -> x.odds(2, 4, 0));
        Twin.refused("c among others", x -> x.odds(2, 15, 1));
        Twin.refused("a is in it", x -> x.odds(0, 9, 0));
        mostOf(4, AyeJars::odds);
        AyeJars x = new AyeJars();
        Twin.busy(x);
        Due.fraction("nobody for one in force", x.odds(3, 0, 0), x.odds(3, 0, 1), 0, 1);
        Due.fraction("nobody for one that was flat", x.odds(4, 0, 0), x.odds(4, 0, 1), 0, 1);
        Due.fraction("nobody", x.odds(2, 0, 0), x.odds(2, 0, 1), 0, 1);
    }

    private interface Weighed {
        int of(AyeJars x, int bill, int set, int part);
    }

    /** All sets of six members: as many as can be are answered, more are not. */
    private static void mostOf(int most, Weighed question) {
        AyeJars x = told("member a breath 1;member b breath 1;member c breath 1;member d breath 1;member e breath 1;member f breath 1;bill a needs 1 opens 1;yawn 50;");
        for (int set = 0; set < 64; set++) {
            boolean few = Integer.bitCount(set) <= most;
            Due.is("the set " + set, question.of(x, 0, set, 1) > 0, few);
            Due.is("the set " + set, question.of(x, 0, set, 0) >= 0, few);
        }
        Due.is("one more", question.of(x, 0, 64, 0), -1);
    }

    private static void oddsTerms() {
        Due.topic("odds' terms");
        String four = "member a breath 1;member b breath 1;member c breath 1;member d breath 1;bill a needs 4 opens 1;bill b needs 1 opens 1;bill c needs 5 opens 1;yawn ";
        AyeJars never = told(four + "100;");
        Due.fraction("all yawn", never.odds(1, 15, 0), never.odds(1, 15, 1), 0, 1);
        AyeJars always = told(four + "0;");
        Due.fraction("none yawns", always.odds(0, 15, 0), always.odds(0, 15, 1), 1, 1);
        Due.fraction("five of four", always.odds(2, 15, 0), always.odds(2, 15, 1), 0, 1);
        AyeJars often = told(four + "99;");
        Due.fraction("all four awake", often.odds(0, 15, 0), often.odds(0, 15, 1), 1, 100000000);
        Due.fraction("one of four awake", often.odds(1, 15, 0), often.odds(1, 15, 1), 3940399, 100000000);
        AyeJars half = told(four + "50;");
        Due.fraction("all four awake", half.odds(0, 15, 0), half.odds(0, 15, 1), 1, 16);
        Due.fraction("not all yawn", half.odds(1, 15, 0), half.odds(1, 15, 1), 15, 16);
        AyeJars sure = told("member a breath 5;member b breath 5;bill a needs 5 opens 1;yawn 50;", 0, 0);
        Due.fraction("it passes anyway", sure.odds(0, 2, 0), sure.odds(0, 2, 1), 1, 1);
        AyeJars now = told("member a breath 9 keeps 2;bill a needs 5 opens 2;bill b needs 6 opens 2;yawn 50;");
        Due.fraction("he votes now: 9 - 4", now.odds(0, 1, 0), now.odds(0, 1, 1), 1, 2);
        Due.fraction("he votes now: 9 - 4", now.odds(1, 1, 0), now.odds(1, 1, 1), 0, 1);
    }

    /** "MEAN .. NONE if there are more than 3, one may not VOTE for it, or one can't be." */
    private static void meanRefused() {
        Due.topic("mean");
        refusedBills("mean", (x, b) -> x.mean(b, 1, 0));
        for (int set : Twin.outside(0, 15)) {
            Twin.refused("mean of the set " + set, x -> x.mean(2, set, 0));
        }
        for (int part : Twin.outside(0, 1)) {
            Twin.refused("mean's part " + part, x -> x.mean(2, 1, part));
        }
        Twin.refused("c voted today", x -> x.mean(2, 4, 0));
        Twin.refused("a is in it", x -> x.mean(0, 9, 0));
        mostOf(3, AyeJars::mean);
        AyeJars x = new AyeJars();
        Twin.busy(x);
        Due.fraction("nobody for one in force", x.mean(3, 0, 0), x.mean(3, 0, 1), 5, 1);
        Due.fraction("nobody for one that was flat", x.mean(4, 0, 0), x.mean(4, 0, 1), 4, 1);
        Due.fraction("nobody, and all is lost", x.mean(0, 0, 0), x.mean(0, 0, 1), 0, 1);
    }

    private static void meanTerms() {
        Due.topic("mean's terms");
        String three = "member a breath 20;member b breath 20;member c breath 20;bill a needs 4 opens 1;fade 0;yawn ";
        AyeJars never = told(three + "100;");
        Due.fraction("all yawn", never.mean(0, 7, 0), never.mean(0, 7, 1), 0, 1);
        AyeJars always = told(three + "0;");
        Due.fraction("none yawns", always.mean(0, 7, 0), always.mean(0, 7, 1), 60, 1);
        AyeJars some = told(three + "1;");
        Due.fraction("99 of 100 of 60", some.mean(0, 7, 0), some.mean(0, 7, 1), 297, 5);
        AyeJars now = told("member a breath 9 keeps 2;bill a needs 5 opens 2;yawn 50;");
        Due.fraction("he votes now: 9 - 4", now.mean(0, 1, 0), now.mean(0, 1, 1), 5, 2);
        Due.fraction("99 of 100 of 20", some.mean(0, 4, 0), some.mean(0, 4, 1), 99, 5);
        AyeJars odd = told("member a breath 1;member b breath 1;member c breath 1;bill a needs 4 opens 1;fade volume < 3;yawn 1;");
        // 3 * 0.970299; two of them leave 1: 0.029403; one leaves none
        Due.fraction("long terms", odd.mean(0, 7, 0), odd.mean(0, 7, 1), 29403, 10000);
    }

    /** "RIPE .. NONE if it is not KEPT, one is in it, or one can't be." */
    private static void ripeRefused() {
        Due.topic("ripe");
        for (int what = 0; what < 2; what++) {
            int asked = what;
            refusedBills("ripe", (x, b) -> x.ripe(b, 8, asked));
            for (int set : Twin.outside(0, 15)) {
                Twin.refused("ripe of the set " + set, x -> x.ripe(2, set, asked));
            }
            Twin.refused("a is in it", x -> x.ripe(0, 1, asked));
            Twin.refused("c is in it, among others", x -> x.ripe(0, 14, asked));
        }
        for (int what : Twin.outside(0, 1)) {
            Twin.refused("ripe's what " + what, x -> x.ripe(2, 1, what));
        }
        Twin.refused("neither", x -> x.ripe(3, 0, 0));
    }

    /** "behind how many DAYS (ahead of its day) all of these should breathe into it at once, so that its volume is most on its day; of like ones the fewest" */
    private static void ripeLimits() {
        Due.topic("ripe's days");
        AyeJars one = told(TWO + "bill a needs 1 opens 1;");
        Due.is("today alone", one.ripe(0, 3, 0), 0);
        Due.is("17 - 3", one.ripe(0, 3, 1), 14);
        AyeJars far = told(TWO + "bill a needs 1 opens 60;bill b needs 1 opens 60;");
        Due.is("the last day", far.ripe(0, 3, 0), 59);
        Due.is("17 - 3", far.ripe(0, 3, 1), 14);
        Due.is("nobody: all alike", far.ripe(0, 0, 0), 0);
        Due.is("nobody: none", far.ripe(0, 0, 1), 0);
        far.vote(0, 1);
        Due.is("whoever voted", far.ripe(0, 3, 0), 59);
        Due.is("behind 4 days nothing is left of 9", far.ripe(1, 2, 0), 59);
        AyeJars all = told("member a breath 20;member b breath 20;member c breath 20;member d breath 20;member e breath 20;member f breath 20;bill a needs 1 opens 5;fade day < 2;");
        Due.is("of 2 .. 4 the fewest", all.ripe(0, 63, 0), 2);
        Due.is("all", all.ripe(0, 63, 1), 120);
        Due.is("one too many", all.ripe(0, 64, 0), -1);
        AyeJars rest = told(TWO + "bill a needs 1 opens 3;", 0, 0);
        rest.day();
        rest.day();
        Due.is("its day is tomorrow", rest.ripe(0, 2, 0), 0);
        Due.is("5 + 8 - 3", rest.ripe(0, 2, 1), 10);
    }

    /** "QUEUE: the volume; NONE if it is not KEPT, or there is none such. The MEMBERS lie there then, in order (behind NONE: nothing)." */
    private static void queueRefused() {
        Due.topic("queue");
        ToIntFunction<AyeJars> clear = x -> x.queue(-1);
        int[] bills = Twin.outside(0, 4);
        for (int i = 0; i < bills.length + 2; i++) {
            int b = i < bills.length ? bills[i] : 3 + i - bills.length;
            AyeJars x = new AyeJars();
            Twin.busy(x);
            x.queue(2);
            Due.is("lies", x.about(13), 4);
            Due.is("queue(" + b + ")", x.queue(b), -1);
            Due.lying(x);
            // behind another NONE all else is the same, too
            Twin.refused("queue(" + b + ")", y -> {
                Twin.busy(y);
                clear.applyAsInt(y);
            }, y -> y.queue(b), -1);
        }
        AyeJars none = new AyeJars();
        Due.is("no house", none.queue(0), -1);
        Due.lying(none);
    }

    /** "one breathes into it a DAY, from today on, as long as it is ahead of its day (whoever VOTED today): in which order (of all of these) ..; of like ones the first" */
    private static void queueLimits() {
        Due.topic("queue's order");
        String four = "member a breath 1;member b breath 4;member c breath 3;member d breath 4;";
        AyeJars one = told(four + "bill a needs 1 opens 1;bill b needs 1 opens 4;bill c needs 1 opens 3;bill d needs 1 opens 60;");
        Due.is("one day: the first of the greatest, then all others", one.queue(0), 4);
        Due.lying(one, 1, 0, 2, 3);
        Due.is("as many days as members", one.queue(1), 12);
        Due.lying(one, 0, 1, 2, 3);
        Due.is("one day too few: the least is the last", one.queue(2), 11);
        Due.lying(one, 1, 2, 3, 0);
        Due.is("more days than members", one.queue(3), 12);
        Due.lying(one, 0, 1, 2, 3);
        one.vote(1, 3);
        Due.is("whoever voted today", one.queue(0), 4);
        Due.lying(one, 1, 0, 2, 3);
        Due.is("those who are not in it", one.queue(3), 12);
        Due.lying(one, 0, 2, 3);
        AyeJars all = told("member a breath 5;bill a needs 1 opens 3;fade 1;", 0, 0);
        Due.is("all are in it", all.queue(0), 2);
        Due.lying(all);
        AyeJars none = told("bill a needs 1 opens 3;");
        Due.is("no members", none.queue(0), 0);
        Due.lying(none);
        AyeJars six = told("member a breath 9 keeps 6;member b breath 9 keeps 5;member c breath 9 keeps 4;member d breath 9 keeps 3;member e breath 9 keeps 2;member f breath 9 keeps 1;bill a needs 1 opens 6;");
        // 9 - 1, 17 - 3, 23 - 6, 26 - 10, 25 - 15, 19 - 21
        Due.is("those who keep best in front", six.queue(0), 0);
        AyeJars better = told("member a breath 20 keeps 6;member b breath 20 keeps 5;member c breath 20 keeps 4;member d breath 20 keeps 3;member e breath 20 keeps 2;member f breath 20 keeps 1;bill a needs 1 opens 6;");
        // 20 - 1, 39 - 3, 56 - 6, 70 - 10, 80 - 15, 85 - 21
        Due.is("those who keep best in front", better.queue(0), 64);
        Due.lying(better, 5, 4, 3, 2, 1, 0);
        queueByAll();
    }

    /** The jar goes on as it is: its age, shelf, and how often it was shaken. */
    private static void queueByAll() {
        AyeJars x = told("member a breath 20;member b breath 20;bill a needs 1 opens 6 shelf 2;fade age * 2 + shelf + shaken;", 0, 0);
        x.shake(0);
        x.day();
        // 20 - 3 by age 0; 37 - 5, then 7, 9, 11 and 13
        Due.is("by age 1, shelf 2, shaken once", x.queue(0), 0);
        AyeJars y = told("member a breath 20;member b breath 20;bill a needs 1 opens 4 shelf 2;fade age * 2 + shelf + shaken;", 0, 0);
        y.shake(0);
        y.day();
        Due.is("37 - 5 - 7 - 9", y.queue(0), 16);
        Due.lying(y, 1);
    }

    /** "SPOIL (0: it would not PASS as it is; 20 at most); NONE if 20 are not enough, it is not KEPT, or there is none such." */
    private static void spoilRefused() {
        Due.topic("spoil");
        refusedBills("spoil", AyeJars::spoil);
    }

    /** "how many times it would have to be shaken now at least (beyond 99 in all, too) so that it would not PASS" */
    private static void spoilLimits() {
        Due.topic("spoil's times");
        String head = "member a breath 9;bill a needs 9 opens 1;bill b needs 1 opens 1;fade shaken > ";
        Due.is("as it is", told(head + "0;", 0, 1).spoil(0), 0);
        Due.is("once", told(head + "0;", 0, 0).spoil(0), 1);
        Due.is("19 times", told(head + "18;", 0, 0).spoil(0), 19);
        Due.is("20 times", told(head + "19;", 0, 0).spoil(0), 20);
        Due.is("21 times", told(head + "20;", 0, 0).spoil(0), -1);
        Due.is("empty", told(head + "0;").spoil(0), 0);
        AyeJars least = told("member a breath 9;bill a needs 9 opens 1;fade shaken = 3;", 0, 0);
        Due.is("the least, though more would not do", least.spoil(0), 3);
        AyeJars x = told(head + "118;", 0, 0);
        for (int i = 0; i < 98; i++) {
            x.shake(0);
        }
        Due.is("98, 119 are too many", x.spoil(0), -1);
        x.shake(0);
        Due.is("99 and 20", x.spoil(0), 20);
        Due.is("none is shaken", x.bill(0, 4), 99);
    }

    /** "SABOTAGE (n 1 .. 3): how many come into FORCE; NONE for another n. The BILL that is shaken ahead of each DAY lies there then (NONE: none; behind NONE: nothing)." */
    private static void sabotageRefused() {
        Due.topic("sabotage");
        for (int n : Twin.outside(1, 3)) {
            AyeJars x = new AyeJars();
            Twin.busy(x);
            Due.is("sabotage(3)", x.sabotage(3), 0);
            Due.lying(x, -1, -1, -1);
            Due.is("sabotage(" + n + ")", x.sabotage(n), -1);
            Due.lying(x);
            Twin.refused("sabotage(" + n + ")", y -> {
                Twin.busy(y);
                y.sabotage(0);
            }, y -> y.sabotage(n), -1);
        }
        AyeJars none = new AyeJars();
        for (int n = 1; n <= 3; n++) {
            Due.is("no house", none.sabotage(n), 0);
            Due.is("lies", none.about(13), n);
            for (int i = 0; i < n; i++) {
                Due.is("none", none.lies(i), -1);
            }
        }
    }

    /** "ahead of each of these one JAR that can be is shaken, or none, so that of the BILLS that are KEPT now fewest come into FORCE in the end" */
    private static void sabotageLimits() {
        Due.topic("sabotage's jars");
        // spoilt by being shaken on day 2: one that opens on day 2 can't be, one that opens on day 3 can
        String head = "member a breath 9;bill a needs 9 opens ";
        AyeJars two = told(head + "2;fade shaken * (day = 2);", 0, 0);
        Due.is("it is opened by then", two.sabotage(3), 1);
        Due.lying(two, -1, -1, -1);
        AyeJars three = told(head + "3;fade shaken * (day = 2);", 0, 0);
        Due.is("ahead of its last day", three.sabotage(3), 0);
        Due.lying(three, -1, -1, 0);
        AyeJars far = told(head + "60;fade shaken * (day = 59);", 0, 0);
        Due.is("in the end", far.sabotage(1), 0);
        Due.lying(far, 0);
        AyeJars tired = told(head + "9;fade shaken > 99;", 0, 0);
        for (int i = 0; i < 99; i++) {
            tired.shake(0);
        }
        Due.is("shaken 99 times it can't be", tired.sabotage(1), 1);
        Due.lying(tired, -1);
        AyeJars almost = told(head + "9;fade shaken > 98;", 0, 0);
        for (int i = 0; i < 98; i++) {
            almost.shake(0);
        }
        Due.is("shaken 98 times it can be once", almost.sabotage(3), 0);
        Due.lying(almost, -1, -1, 0);
        AyeJars twice = told(head + "9;fade shaken > 99;", 0, 0);
        for (int i = 0; i < 98; i++) {
            twice.shake(0);
        }
        Due.is("but not twice", twice.sabotage(3), 1);
        Due.lying(twice, -1, -1, -1);
        AyeJars opened = told("member a breath 9;member b breath 9;bill a needs 9 opens 1;bill b needs 9 opens 9;fade shaken;", 0, 0, 1, 1);
        opened.day();
        Due.is("of those that are kept now", opened.sabotage(1), 0);
        Due.lying(opened, 1);
        AyeJars saved = told(head + "9;fade shaken = 0;", 0, 0);
        saved.shake(0);
        Due.is("none is best, if shaking keeps it", saved.sabotage(3), 1);
        saved.undo();
        Due.is("none is best", saved.sabotage(3), 0);
        Due.lying(saved, -1, -1, -1);
        AyeJars five = told("member a breath 9;member b breath 9;member c breath 9;member d breath 9;member e breath 9;bill a needs 9 opens 9;bill b needs 9 opens 9;"
                + "bill c needs 9 opens 9;bill d needs 9 opens 9;bill e needs 1 opens 9;fade (shaken > 1) * 9;", 0, 0, 1, 1, 2, 2, 3, 3, 4, 4);
        Due.is("once is not enough", five.sabotage(1), 5);
        Due.lying(five, -1);
        five.shake(4);
        Due.is("the last one", five.sabotage(1), 4);
        Due.lying(five, 4);
        Due.is("the last one, and one of the others", five.sabotage(3), 3);
        Due.lying(five, 0, 0, 4);
    }

    /** "of like ones those of the fewest times; of like ones the first (DAY by DAY: none, then BILLS)" */
    private static void sabotageOfLikeOnes() {
        Due.topic("like sabotages");
        AyeJars x = told("member a breath 9;member b breath 9;member c breath 9;bill a needs 9 opens 9;bill b needs 9 opens 9;bill c needs 9 opens 9;fade shaken;", 0, 0, 1, 1, 2, 2);
        Due.is("one of three", x.sabotage(1), 2);
        Due.lying(x, 0);
        Due.is("two of three", x.sabotage(2), 1);
        Due.lying(x, 0, 1);
        Due.is("all", x.sabotage(3), 0);
        Due.lying(x, 0, 1, 2);
        AyeJars early = told("member a breath 9;bill a needs 7 opens 3;fade shaken;", 0, 0);
        Due.is("on the second and third day would be the first, but the first alone is once", early.sabotage(3), 0);
        Due.lying(early, 0, -1, -1);
        AyeJars one = told("member a breath 9;member b breath 9;bill a needs 9 opens 9;bill b needs 7 opens 9;fade (shaken > 2);", 0, 0, 1, 1);
        one.shake(0);
        one.shake(1);
        Due.is("two for one day's loss", one.sabotage(2), 1);
        Due.lying(one, 0, 0);
        one.undo();
        Due.is("b is shaken once less", one.sabotage(3), 1);
        Due.lying(one, -1, 0, 0);
    }

    /** "Volumes of all that are KEPT and would not PASS, together." */
    private static void wastedEdges() {
        Due.topic("wasted");
        Due.is("no house", new AyeJars().wasted(), 0);
        AyeJars x = told("member a breath 9;member b breath 8;member c breath 7;bill a needs 9 opens 1;bill b needs 9 opens 1;bill c needs 9 opens 2;", 0, 0, 1, 1, 2, 2);
        Due.is("8 and 7", x.wasted(), 15);
        x.day();
        Due.is("a flat one is not kept", x.wasted(), 7);
        x.day();
        Due.is("none is kept", x.wasted(), 0);
    }

    /** "The BILL of most volume, of those that are KEPT; of like ones the first; NONE if none is." */
    private static void richestEdges() {
        Due.topic("richest");
        Due.is("no house", new AyeJars().richest(), -1);
        AyeJars x = told("member a breath 9;member b breath 9;bill a needs 9 opens 2;bill b needs 9 opens 1;bill c needs 9 opens 3;", 0, 1, 1, 2);
        Due.is("of two", x.richest(), 1);
        x.day();
        Due.is("it is in force", x.richest(), 2);
        x.day();
        Due.is("still", x.richest(), 2);
        x.day();
        Due.is("none is kept", x.richest(), -1);
        Due.is("all are empty", told("bill a needs 9 opens 2;bill b needs 9 opens 1;").richest(), 0);
    }

    /** "How many twos of KEPT BILLS, in order, of which neither would PASS, and the first one would, if they were joined (the second one not EMPTY)." */
    private static void matchesEdges() {
        Due.topic("matches");
        Due.is("no house", new AyeJars().matches(), 0);
        AyeJars x = told("member a breath 5;member b breath 4;bill a needs 9 opens 1;bill b needs 9 opens 1;bill c needs 4 opens 1;", 0, 0);
        Due.is("c by a's", x.matches(), 1);
        x.vote(1, 1);
        Due.is("a by b's, b by a's, c by either", x.matches(), 4);
        AyeJars few = told("member a breath 5;member b breath 4;bill a needs 10 opens 1;bill b needs 9 opens 1;", 0, 0, 1, 1);
        Due.is("9 is one too few for the first", few.matches(), 1);
        AyeJars passing = told("member a breath 5;member b breath 4;bill a needs 5 opens 1;bill b needs 9 opens 1;", 0, 0, 1, 1);
        Due.is("one passes by itself", passing.matches(), 0);
        x.day();
        Due.is("none is kept", x.matches(), 0);
        AyeJars five = told("member a breath 2;member b breath 2;member c breath 2;member d breath 2;member e breath 2;"
                + "bill a needs 4 opens 1;bill b needs 4 opens 1;bill c needs 4 opens 1;bill d needs 4 opens 1;bill e needs 4 opens 1;", 0, 0, 1, 1, 2, 2, 3, 3, 4, 4);
        Due.is("all of five", five.matches(), 20);
    }

    /** "BILLS that would PASS now, but not, if they were shaken once more, as bits." */
    private static void brittleEdges() {
        Due.topic("brittle");
        Due.is("no house", new AyeJars().brittle(), 0);
        AyeJars x = told("member a breath 9;member b breath 9;member c breath 9;bill a needs 9 opens 1;bill b needs 8 opens 1;bill c needs 7 opens 2;fade shaken;", 0, 0, 1, 1, 2, 2);
        Due.is("9 - 1 of 9, 9 - 1 of 8, 9 - 2 of 7", x.brittle(), 1);
        x.shake(1);
        x.shake(2);
        Due.is("8 - 1 of 8, 7 - 2 of 7", x.brittle(), 7);
        x.shake(0);
        Due.is("one that would not pass now is not", x.brittle(), 6);
        x.day();
        Due.is("kept ones", x.brittle(), 4);
        AyeJars tired = told("member a breath 9;bill a needs 9 opens 1;fade shaken > 99;", 0, 0);
        for (int i = 0; i < 99; i++) {
            tired.shake(0);
        }
        Due.is("shaken 99 times: once more", tired.brittle(), 1);
    }

    /** "NONE for another n, or without MEMBERS" */
    private static void longestRefused() {
        Due.topic("longest");
        for (int n : Twin.outside(0, 60)) {
            if (n < 0 || n > 60) {
                Twin.refused("longest(" + n + ")", x -> x.longest(n));
            }
        }
        for (int n = 0; n <= 60; n += 30) {
            Due.is("no house", new AyeJars().longest(n), -1);
            Due.is("without members", told("bill a needs 1 opens 1;").longest(n), -1);
        }
    }

    /** "The MEMBER whose breath would be most behind n DAYS (0 .. 60), alone in a fresh JAR on shelf 0; of like ones the first" */
    private static void longestEdges() {
        Due.topic("the longest breath");
        AyeJars x = told("member a breath 3;member b breath 9 keeps 1;member c breath 9;member d breath 9;bill a needs 1 opens 60 shelf 5;fade (day = 59) * loss + shelf + shaken;", 0, 0, 1, 0);
        x.shake(0);
        Due.is("of three like ones", x.longest(0), 1);
        Due.is("till day 59", x.longest(59), 1);
        Due.is("behind it", x.longest(60), 2);
        x.day();
        Due.is("from today on: day 59 is nearer", x.longest(58), 1);
        Due.is("from today on: day 59 is nearer", x.longest(59), 2);
        Due.is("all is lost: the first", told("member a breath 3;member b breath 9;fade 99;").longest(1), 0);
        AyeJars fresh = told("member a breath 3;member b breath 9 keeps 1;fade (age = 2) * loss * 7;");
        Due.days(fresh, 5);
        Due.is("a fresh one is of age 0", fresh.longest(2), 1);
        Due.is("of age 2 on the third day", fresh.longest(3), 0);
    }

    /** "The i-th number of what lies there; -2 if there is none such." */
    private static void liesEdges() {
        Due.topic("lies");
        for (int i : Twin.outside(0, 3)) {
            Twin.refused("lies(" + i + ")", Twin::busy, x -> x.lies(i), -2);
        }
        AyeJars x = new AyeJars();
        Due.is("nothing lies there", x.lies(0), -2);
        Twin.busy(x);
        Due.lying(x, -1, -1, -1, 2);
        x.sabotage(1);
        Due.lying(x, -1);
        x.queue(2);
        Due.lying(x, 2, 3, 0, 1);
        x.vote(3, 2);
        x.undo();
        x.redo();
        x.back(1);
        x.muster(2, 0);
        Due.lying(x, 2, 3, 0, 1);
        x.queue(3);
        Due.lying(x);
    }
}
