/** Promises 2 to 5: the tape, the house's text, its tokens, limits and faults. */
public final class TextTest {
    public static void main(String[] args) {
        tape();
        wholeHouse();
        tokens();
        places();
        names();
        numbers();
        sorts();
        units();
        nesting();
        formulas();
        faultKeepsAll();
        Due.close("TextTest");
    }

    private static void tape() {
        Due.topic("tape");
        AyeJars x = new AyeJars();
        Due.is("about(11)", x.about(11), 0);
        Due.is("end(0)", x.end(0), 0);
        Due.is("end(1)", x.end(1), -1);
        Due.is("end(-1)", x.end(-1), -1);
        for (int i = 1; i <= 80; i++) {
            Due.is("feed", x.feed(0x20202020, 0x20202020, 0x20202020, 0x20202020, 0x20202020), 20 * i);
        }
        Due.is("feed beyond 1600", x.feed(0, 0, 0, 0, 0), -1);
        Due.is("about(11)", x.about(11), 1600);
        Due.is("end(1601)", x.end(1601), -1);
        Due.is("end(1581)", x.end(1581), 1581);
        Due.is("feed to 1601", x.feed(0, 0, 0, 0, 0), -1);
        Due.is("end(1580)", x.end(1580), 1580);
        Due.is("feed to 1600", x.feed(0x20202020, 0x0a0a0a0a, 0x20202020, 0x20202020, 0x20202020), 1600);
        Due.is("house of blanks", x.house(), 0);
        Due.is("tape is empty then", x.about(11), 0);
        // 'y' is the highest byte of the first number
        Due.is("feed", x.feed(0x7961776e, 0x20373b20, 0x20202020, 0x20202020, 0x20202020), 20);
        Due.is("house", x.house(), 0);
        Due.is("yawn", x.about(4), 7);
    }

    private static void wholeHouse() {
        Due.topic("house");
        AyeJars x = new AyeJars();
        Due.is("fault(0)", x.fault(0), 0);
        Due.is("fault(1)", x.fault(1), -1);
        Due.is("fault(2)", x.fault(2), -1);
        Due.is("empty house()", x.house(), 0);
        x.later(9);
        Due.feed(x, "draw 999;bill b needs 99 opens 60 shelf 9;member b breath 20 keeps 9;yawn 100;"
                + "member c breath 1;fade 0;bill c needs 1 opens 1;");
        Due.is("house()", x.house(), 2);
        Due.is("fault(0)", x.fault(0), 0);
        Due.is("fault(1)", x.fault(1), -1);
        Due.is("members", x.about(0), 2);
        Due.is("bills", x.about(1), 2);
        Due.is("seed", x.about(3), 999);
        Due.is("yawn", x.about(4), 100);
        Due.is("units", x.about(12), 1);
        Due.is("time stays", x.about(10), 9);
        Due.is("breath", x.member(0, 0), 20);
        Due.is("keeps", x.member(0, 1), 9);
        Due.is("breath", x.member(1, 0), 1);
        Due.is("keeps not told", x.member(1, 1), 0);
        Due.is("needs", x.bill(0, 6), 99);
        Due.is("opens", x.bill(0, 7), 60);
        Due.is("shelf", x.bill(0, 3), 9);
        Due.is("needs", x.bill(1, 6), 1);
        Due.is("opens", x.bill(1, 7), 1);
        Due.is("shelf not told", x.bill(1, 3), 0);
        newHouseForgets(x);
    }

    private static void newHouseForgets(AyeJars x) {
        x.day();
        x.vote(0, 0);
        x.image(0);
        x.sniffed(0, 0, true);
        x.sabotage(2);
        Due.feed(x, "member a breath 3;");
        Due.is("house()", x.house(), 1);
        Due.is("day", x.about(2), 0);
        Due.is("seed", x.about(3), 0);
        Due.is("bills", x.about(1), 0);
        Due.is("units", x.about(12), 0);
        Due.is("no acts", x.about(7), 0);
        Due.is("no sniffed", x.about(9), 0);
        Due.is("nothing lies", x.about(13), 0);
        Due.is("boxes are empty", x.back(0), -1);
        Due.is("voted is forgotten", x.member(0, 2), 1);
        Due.is("undo()", x.undo(), false);
        Due.is("time stays", x.about(10), 9);
    }

    private static void tokens() {
        Due.topic("tokens");
        Due.is("parted by signs alone", Due.house("member a breath5;fade(1+age)*2;").about(12), 4);
        Due.is("blanks and lines", Due.house("\n\nmember\na\nbreath\n5\n;\n").about(0), 1);
        Due.is("a digit behind a word", Due.house("member a breath5;").member(0, 0), 5);
        Due.is("leading zeros", Due.house("member a breath 0005;").member(0, 0), 5);
        Due.is("8 letters", Due.house("member abcdefgh breath 5;").about(0), 1);
        Due.fault("member abcdefghi breath 5;", 1, 7);
        Due.fault("member a breath 00005;", 1, 16);
        Due.fault("member a breath 5keeps 1;", 1, 16);
        Due.fault("member a breath 5;$", 1, 18);
        Due.fault("Member a breath 5;", 1, 0);
        Due.fault("member a\tbreath 5;", 1, 8);
        Due.fault("member a\rbreath 5;", 1, 8);
        Due.fault("yawn 1;" + (char) 0, 1, 7);
        Due.fault("yawn 1;" + (char) 0xe9, 1, 7);
        Due.fault("yawn 1;" + (char) 0xff, 1, 7);
        Due.fault("memberabc a;", 1, 0);
        Due.fault("membera a;", 2, 0);
        Due.fault("yawn 12345;", 1, 5);
        Due.fault("fade 1 & 2;", 1, 7);
    }

    private static void places() {
        Due.topic("places");
        Due.fault("member", 2, 6);
        Due.fault("member  \n", 2, 9);
        Due.fault("member a breath 5", 2, 17);
        Due.fault("member a breath 5 keeps", 2, 23);
        Due.fault("member a 5;", 2, 9);
        Due.fault("member a breath;", 2, 15);
        Due.fault("member 5 breath 5;", 2, 7);
        Due.fault("member a breath 5 shelf 1;", 2, 18);
        Due.fault("member a breath 5 keeps 1 keeps 1;", 2, 26);
        Due.fault("bill a needs 5;", 2, 14);
        Due.fault("bill a opens 5 needs 5;", 2, 7);
        Due.fault("bill a needs 5 opens 5 keeps 1;", 2, 23);
        Due.fault(";", 2, 0);
        Due.fault("yawn 1;;", 2, 7);
        Due.fault("ann 1;", 2, 0);
        Due.fault("yawn ;", 2, 5);
        Due.fault("draw draw;", 2, 5);
        Due.fault("fade ;", 2, 5);
        Due.fault("fade 1", 2, 6);
        Due.fault("fade ann;", 2, 5);
        Due.fault("fade 1 2;", 2, 7);
        // the first by its place, whatever comes behind
        Due.fault("member a breath 99; $", 4, 16);
        Due.fault("member a breath 5; member a breath 99;", 3, 26);
        Due.fault("member 5 $", 2, 7);
    }

    private static void names() {
        Due.topic("names");
        String[] words = {"member", "breath", "keeps", "bill", "needs", "opens", "shelf", "fade",
            "yawn", "draw", "or", "and", "not", "volume", "age", "loss", "shaken", "day"};
        for (String word : words) {
            Due.fault("member " + word + " breath 1;", 2, 7);
            Due.fault("bill " + word + " needs 1 opens 1;", 2, 5);
        }
        for (String word : new String[] {"e", "both", "one", "sum", "term", "unit", "line", "house", "days", "ag"}) {
            Due.is(word, Due.house("member " + word + " breath 1;").about(0), 1);
        }
        Due.fault("member a breath 1;member b breath 1;member a breath 1;", 3, 43);
        Due.fault("bill ab needs 1 opens 1;bill ab needs 1 opens 1;", 3, 29);
        Due.is("of another sort", Due.house("member a breath 1;bill a needs 1 opens 1;").about(1), 1);
        Due.is("not told in this house", Due.house("member b breath 1;member ab breath 1;").about(0), 2);
        AyeJars x = Due.house("member a breath 1;");
        Due.feed(x, "member a breath 2;");
        Due.is("names of an earlier house", x.house(), 1);
    }

    private static void numbers() {
        Due.topic("numbers");
        Due.fault("member a breath 0;", 4, 16);
        Due.fault("member a breath 21;", 4, 16);
        Due.fault("member a breath 1 keeps 10;", 4, 24);
        Due.fault("bill a needs 0 opens 1;", 4, 13);
        Due.fault("bill a needs 100 opens 1;", 4, 13);
        Due.fault("bill a needs 1 opens 0;", 4, 21);
        Due.fault("bill a needs 1 opens 61;", 4, 21);
        Due.fault("bill a needs 1 opens 1 shelf 10;", 4, 29);
        Due.fault("yawn 101;", 4, 5);
        Due.fault("draw 1000;", 4, 5);
        Due.is("any number in a formula", Due.house("fade 9999 + 0;").about(12), 2);
    }

    private static void sorts() {
        Due.topic("sorts");
        StringBuilder members = new StringBuilder();
        for (int i = 0; i < 6; i++) {
            members.append("member ").append((char) ('a' + i)).append(" breath 1;");
        }
        Due.is("6 members", Due.house(members.toString()).about(0), 6);
        Due.fault(members + "member a breath 1;", 2, members.length());
        StringBuilder bills = new StringBuilder();
        for (int i = 0; i < 5; i++) {
            bills.append("bill ").append((char) ('a' + i)).append(" needs 1 opens 1;");
        }
        Due.is("5 bills", Due.house(bills.toString()).about(1), 5);
        Due.fault(bills + "bill $", 2, bills.length());
        Due.fault("yawn 0;yawn 0;", 2, 7);
        Due.fault("draw 0;draw 0;", 2, 7);
        Due.fault("fade 0;fade 0;", 2, 7);
    }

    private static void units() {
        Due.topic("units");
        Due.is("30 units", Due.house("fade 1" + "+1".repeat(29) + ";").about(12), 30);
        Due.fault("fade 1" + "+1".repeat(30) + ";", 2, 5 + 60);
        Due.fault("fade 1" + "+1".repeat(29) + "+(1);", 2, 5 + 60);
        Due.fault("fade 1" + "+1".repeat(28) + "+(1);", 2, 5 + 59);
        Due.is("( e ) is one, too", Due.house("fade 1" + "+1".repeat(27) + "+(1);").about(12), 30);
        Due.fault("fade 1" + "+1".repeat(29) + "+$;", 1, 5 + 60);
    }

    private static void nesting() {
        Due.topic("nesting");
        Due.is("7 parentheses", Due.house("fade " + "(".repeat(7) + "1" + ")".repeat(7) + ";").about(12), 8);
        Due.fault("fade " + "(".repeat(8) + "1" + ")".repeat(8) + ";", 2, 12);
        Due.is("7 nots", Due.house("fade " + "not ".repeat(7) + "1;").about(12), 1);
        Due.fault("fade " + "not ".repeat(8) + "1;", 2, 5 + 28);
        Due.is("nots within", Due.house("fade ((( not not not not 1)));").about(12), 4);
        Due.fault("fade (((not not not not not 1)));", 2, 5 + 3 + 16);
        Due.fault("fade (((not not not not (1))));", 2, 5 + 3 + 16);
        Due.is("side by side", Due.house("fade " + "(".repeat(7) + "1" + ")".repeat(7) + "+" + "(".repeat(7) + "1" + ")".repeat(7) + ";").about(12), 16);
        Due.is("the longest code", Due.house("fade not not not not not not not 1"
                + " or not not not not not not not 1".repeat(29) + ";").about(12), 30);
        Due.fault("fade (1;", 2, 7);
        Due.fault("fade 1);", 2, 6);
        Due.fault("fade ();", 2, 6);
    }

    private static void formulas() {
        Due.topic("formulas");
        Due.fault("fade 1 + not 2;", 2, 9);
        Due.fault("fade 1 < 2 < 3;", 2, 11);
        Due.fault("fade - 1;", 2, 5);
        Due.fault("fade 1 and;", 2, 10);
        Due.fault("fade or 1;", 2, 5);
        fades("2 + 3 * 4", 14);
        fades("20 - 3 - 4", 13);
        fades("90 / 4 / 5", 4);
        fades("17 % 10 * 2", 14);
        fades("(2 + 3) * 4", 20);
        fades("7 / 0 + 7 % 0 + 5", 5);
        fades("20 + (0 - 7) / 2", 17);
        fades("20 + (0 - 7) % 4", 17);
        fades("5 - 9", 0);
        fades("9999", 20);
        fades("3 < 4", 1);
        fades("4 < 3", 0);
        fades("4 > 3", 1);
        fades("4 = 4", 1);
        fades("4 = 3", 0);
        fades("7 and 8", 1);
        fades("7 and 0", 0);
        fades("0 or 9", 1);
        fades("0 or 0", 0);
        fades("1 or 1 and 0", 1);
        fades("not 7", 0);
        fades("not 0", 1);
        fades("not 3 < 2", 1);
        fades("not not 7", 1);
        fades("not 0 + 5", 0);
        fades("(not 0) + 5", 6);
        // wraps to -1027349969
        fades("5 * (9999 * 9999 * 9999 < 0) + (9999 * 9999 * 9999 % 1000 = 0 - 969)", 6);
        // the least int by -1
        fades("7 + (2048 * 1024 * 1024 / (0 - 1) < 0) + 2048 * 1024 * 1024 % (0 - 1)", 8);
        fades("volume", 20);
        fades("loss", 3);
        fades("shelf", 4);
        fades("age + shaken + day", 0);
    }

    private static void fades(String formula, int due) {
        AyeJars x = Due.house("member a breath 20 keeps 3;bill b needs 1 opens 9 shelf 4;fade " + formula + ";");
        x.vote(0, 0);
        Due.is("fade " + formula, x.bill(0, 9), due);
        x.day();
        Due.is("volume behind fade " + formula, x.bill(0, 0), 20 - due);
    }

    private static void faultKeepsAll() {
        Due.topic("a fault keeps all");
        AyeJars x = Due.house("member a breath 20 keeps 3;bill b needs 1 opens 9 shelf 4;fade 2;draw 3;");
        x.vote(0, 0);
        x.image(1);
        x.sniffed(1, 1, true);
        x.plan();
        Due.feed(x, "member x breath 1;yawn 50;fade 1+1;bill x needs 0");
        Due.is("house()", x.house(), -1);
        Due.is("fault(0)", x.fault(0), 4);
        Due.is("fault(1)", x.fault(1), 48);
        Due.is("tape", x.about(11), 49);
        Due.is("units", x.about(12), 1);
        Due.is("yawn", x.about(4), 0);
        Due.is("breath", x.member(0, 0), 20);
        Due.is("volume", x.bill(0, 0), 20);
        Due.is("fade", x.bill(0, 9), 2);
        Due.is("acts", x.about(7), 1);
        Due.is("sniffed", x.about(9), 1);
        Due.is("lying", x.about(13), 1);
        Due.is("box", x.back(1), 0);
        // mended by cutting the bad end off
        Due.is("end(35)", x.end(35), 35);
        Due.is("house()", x.house(), 1);
        Due.is("fault(0)", x.fault(0), 0);
        Due.is("yawn", x.about(4), 50);
        Due.is("units", x.about(12), 2);
    }
}
