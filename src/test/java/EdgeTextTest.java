/**
 * Each sentence of the document that names a boundary case of the text: the tape, tokens, limits
 * and faults (promises 1 to 5). The sentence stands ahead of its test.
 */
public final class EdgeTextTest {
    private static final String SIGNS = ";()<>=+-*/%";

    public static void main(String[] args) {
        emptyAtFirst();
        feedTillFull();
        feedTakesAllBytes();
        endCuts();
        longestText();
        everyByte();
        longWords();
        longNumbers();
        lettersBehindNumbers();
        blanksOrNone();
        ownWords();
        mostOfEachSort();
        onceEach();
        namesAgain();
        numbersThatCannotBe();
        notTold();
        mostUnits();
        deepest();
        firstFault();
        endOfText();
        faultOfLatest();
        allAsToldBehindHouse();
        allStaysBehindFault();
        Due.close("EdgeTextTest");
    }

    /** "A HOUSE is a text of at most 1,600 bytes (empty at first)"; "AyeJars(): An empty HOUSE." */
    private static void emptyAtFirst() {
        Due.topic("empty at first");
        AyeJars x = new AyeJars();
        for (int what = 0; what <= 13; what++) {
            Due.is("about(" + what + ")", x.about(what), 0);
        }
        Due.is("house() of an empty tape", x.house(), 0);
        Due.is("fault(0)", x.fault(0), 0);
        Due.is("fault(1)", x.fault(1), -1);
        AyeJars y = Due.house("member a breath 1;bill b needs 1 opens 1;fade 1;yawn 1;draw 1;");
        Due.is("an empty tape again", y.house(), 0);
        for (int what = 0; what <= 13; what++) {
            Due.is("about(" + what + ")", y.about(what), 0);
        }
    }

    /** "Twenty bytes come behind those on the TAPE ..: how many there are; NONE, and nothing comes, if there would be more than 1,600." */
    private static void feedTillFull() {
        Due.topic("feed");
        for (int cut = 0; cut <= 1600; cut += cut == 20 ? 1540 : 1) {
            AyeJars x = full();
            x.end(cut);
            int due = cut <= 1580 ? cut + 20 : -1;
            Due.is("feed behind " + cut, x.feed(0, 0, 0, 0, 0), due);
            Due.is("bytes behind " + cut, x.about(11), due == -1 ? cut : due);
            if (cut > 1580) {
                Due.is("nothing came: blanks alone", x.house(), 0);
            } else {
                x.house();
                Due.is("they came behind " + cut, x.fault(1), cut);
            }
        }
    }

    private static AyeJars full() {
        AyeJars x = new AyeJars();
        for (int i = 0; i < 80; i++) {
            x.feed(0x20202020, 0x20202020, 0x20202020, 0x20202020, 0x20202020);
        }
        Due.is("full", x.about(11), 1600);
        return x;
    }

    /** ".. of each number the highest first". */
    private static void feedTakesAllBytes() {
        Due.topic("feed, highest first");
        int blanks = 0x20202020;
        for (int place = 0; place < 20; place++) {
            int[] n = {blanks, blanks, blanks, blanks, blanks};
            int shift = 24 - place % 4 * 8;
            n[place / 4] = n[place / 4] & ~(255 << shift) | 0xfe << shift;
            AyeJars x = new AyeJars();
            Due.is("feed", x.feed(n[0], n[1], n[2], n[3], n[4]), 20);
            Due.is("house()", x.house(), -1);
            Due.is("no token", x.fault(0), 1);
            Due.is("at its byte", x.fault(1), place);
        }
    }

    /** "The TAPE has its first n bytes: n; NONE, doing nothing, if it has not so many, or n is below 0." */
    private static void endCuts() {
        Due.topic("end");
        Due.is("none of none", new AyeJars().end(0), 0);
        for (int n : Twin.outside(0, 0)) {
            Twin.refused("end(" + n + ") of none", x -> { }, x -> x.end(n), -1);
        }
        for (int n : Twin.outside(0, 20)) {
            if (n < 0 || n > 20) {
                Twin.refused("end(" + n + ") of 20", x -> x.end(n));
            }
        }
        AyeJars x = new AyeJars();
        Due.feed(x, "yawn 12;draw 34;$");
        Due.is("all of it", x.end(17), 17);
        Due.is("one less", x.end(16), 16);
        Due.is("what was cut off is gone", x.end(17), -1);
        Due.is("house()", x.house(), 0);
        Due.is("draw", x.about(3), 34);
        Due.is("the tape is empty then", x.end(1), -1);
        Due.is("end(0)", x.end(0), 0);
        cutWithin("draw 7a", 6, 2, 6);
        cutWithin("fade 77777", 9, 2, 9);
        cutWithin("yawns 7;", 4, 2, 4);
        cutWithin("member a breath 1;", 8, 2, 8);
        cutWithin("$;", 1, 1, 0);
    }

    /** What was cut off has no say, though it stood directly behind. */
    private static void cutWithin(String text, int n, int fault, int place) {
        AyeJars x = new AyeJars();
        Due.feed(x, text);
        Due.is("end(" + n + ") of " + text, x.end(n), n);
        Due.is("house() of " + text, x.house(), -1);
        Due.is("fault of " + text, x.fault(0), fault);
        Due.is("its place in " + text, x.fault(1), place);
    }

    /** "a text of at most 1,600 bytes" */
    private static void longestText() {
        Due.topic("the longest text");
        String tail = "draw 345;";
        AyeJars x = new AyeJars();
        Due.feed(x, " ".repeat(1600 - tail.length()) + tail);
        Due.is("bytes", x.about(11), 1600);
        Due.is("house()", x.house(), 0);
        Due.is("draw", x.about(3), 345);
        Due.fault(" ".repeat(1600 - 8) + "draw 345", 2, 1600);
        Due.fault(" ".repeat(1599) + "$", 1, 1599);
        Due.fault(" ".repeat(1599) + "1", 2, 1599);
        Due.fault("yawn" + "\n".repeat(1596), 2, 1600);
        Due.fault("member " + "a".repeat(1593), 1, 7);
        Due.fault("yawn " + "1".repeat(1595), 1, 5);
        Due.fault("(".repeat(1600), 2, 0);
        Due.fault("fade " + "(".repeat(1595), 2, 12);
        Due.fault("fade " + "not ".repeat(398), 2, 33);
        Due.fault("fade 1" + "+1".repeat(797), 2, 65);
    }

    /** "TOKENS: words (a .. z ..), N .., signs ; ( ) < > = + - * / %; blanks (32, 10)"; "1 no TOKEN" */
    private static void everyByte() {
        Due.topic("every byte");
        for (int b = 0; b < 256; b++) {
            String one = "" + (char) b;
            boolean token = b >= 'a' && b <= 'z' || b >= '0' && b <= '9' || SIGNS.indexOf(b) >= 0;
            if (b == 32 || b == 10) {
                Due.is("a blank " + b, Due.house("draw" + one + "7" + one + ";" + one).about(3), 7);
            } else {
                Due.fault(one, token ? 2 : 1, 0);
                // one that would change what stands ahead of it is not tried there
                boolean digitOrLetter = b >= 'a' && b <= 'z' || b >= '0' && b <= '9';
                if (!digitOrLetter && b != ';') {
                    Due.fault("yawn 7" + one, token ? 2 : 1, 6);
                    Due.fault("yawn" + one + "7;", token ? 2 : 1, 4);
                }
            }
        }
    }

    /** "words (a .. z, 8 at most)"; "each is as long as can be" */
    private static void longWords() {
        Due.topic("words");
        String[] eight = {"aaaaaaaa", "zzzzzzzz", "abcdefgh", "membersx", "volumesx"};
        for (String word : eight) {
            Due.is("8 letters", Due.house("member " + word + " breath 1;").about(0), 1);
            Due.is("8 letters", Due.house("bill " + word + " needs 1 opens 1;").about(1), 1);
            Due.fault("member " + word + "a breath 1;", 1, 7);
            Due.fault("bill " + word + "a needs 1 opens 1;", 1, 5);
            Due.fault(word, 2, 0);
            Due.fault(word + "a", 1, 0);
        }
        Due.is("1 letter", Due.house("member z breath 1;").about(0), 1);
        Due.is("8 letters that differ at the last", Due.house("member aaaaaaaa breath 1;member aaaaaaab breath 1;").about(0), 2);
        Due.is("8 and 7 letters", Due.house("member aaaaaaaa breath 1;member aaaaaaa breath 1;").about(0), 2);
        Due.fault("member aaaaaaaa breath 1;member aaaaaaaa breath 1;", 3, 32);
        // no word is cut, so that it would be one that can stand there
        Due.fault("memberx breath 1;", 2, 0);
        Due.fault("yawns 1;", 2, 0);
        Due.fault("member x breathx 1;", 2, 9);
        Due.fault("fade days;", 2, 5);
        Due.fault("fade 1 orage;", 2, 7);
        Due.fault("fade notage;", 2, 5);
    }

    /** "N (1 to 4 digits)"; "each is as long as can be" */
    private static void longNumbers() {
        Due.topic("numbers of digits");
        Due.is("1 digit", Due.house("draw 7;").about(3), 7);
        Due.is("4 digits", Due.house("draw 0007;").about(3), 7);
        Due.is("4 digits of nothing", Due.house("draw 0000;").about(3), 0);
        Due.fault("draw 00007;", 1, 5);
        Due.fault("draw 00000;", 1, 5);
        Due.fault("draw 0000000000000000000007;", 1, 5);
        Due.fault("draw 4294967296;", 1, 5);
        Due.is("the greatest", Due.house("fade 9999;").about(12), 1);
        Due.fault("fade 10000;", 1, 5);
        Due.fault("fade 1 + 99999;", 1, 9);
        Due.fault("fade 1 23;", 2, 7);
        Due.fault("12345", 1, 0);
        Due.fault("1234", 2, 0);
    }

    /** "no letter directly behind an N" */
    private static void lettersBehindNumbers() {
        Due.topic("a letter behind a number");
        Due.fault("member a breath 5keeps 1;", 1, 16);
        Due.fault("fade 1or 2;", 1, 5);
        Due.fault("fade 1 + 2a;", 1, 9);
        Due.fault("fade 1234and 1;", 1, 5);
        Due.fault("draw 7z", 1, 5);
        Due.fault("draw 7a;", 1, 5);
        Due.is("a blank between", Due.house("member a breath 5 keeps 1;").member(0, 1), 1);
        Due.is("a line's end between", Due.house("member a breath 5\nkeeps 1;").member(0, 1), 1);
        Due.is("a number directly behind a word", Due.house("member a breath5 keeps1;").member(0, 1), 1);
        Due.is("a sign between", Due.house("fade(1)or(2);").about(12), 4);
        // a capital is no letter of a word: it is no token by itself
        Due.fault("draw 7Z;", 1, 6);
        Due.fault("draw 7{;", 1, 6);
        Due.fault("draw 7`;", 1, 6);
    }

    /** "blanks (32, 10) part them or not" */
    private static void blanksOrNone() {
        Due.topic("blanks");
        Due.is("none", Due.house("draw7;yawn8;fade(1)+2*(3<age);").about(12), 6);
        Due.is("many", Due.house(" \n \n draw \n\n 7 \n ; \n ").about(3), 7);
        Due.fault("dr aw 7;", 2, 0);
        Due.fault("draw 7 7;", 2, 7);
        Due.fault("draw\t7;", 1, 4);
        Due.fault("draw\r\n7;", 1, 4);
        Due.fault("draw\f7;", 1, 4);
        Due.fault("draw" + (char) 160 + "7;", 1, 4);
    }

    /** "Words that stand for themselves here are no NAMES." */
    private static void ownWords() {
        Due.topic("words that stand for themselves");
        String[] own = {"member", "breath", "keeps", "bill", "needs", "opens", "shelf", "fade", "yawn",
            "draw", "or", "and", "not", "volume", "age", "loss", "shaken", "day"};
        for (String word : own) {
            Due.fault("member " + word + " breath 1;", 2, 7);
            Due.fault("bill " + word + " needs 1 opens 1;", 2, 5);
            Due.is(word + "s", Due.house("member " + word + "s breath 1;").about(0), 1);
            Due.is("a" + word, Due.house("bill a" + word + " needs 1 opens 1;").about(1), 1);
        }
        String[] others = {"house", "line", "e", "both", "one", "sum", "term", "unit", "n", "name", "none", "jar", "force"};
        for (String word : others) {
            Due.is(word, Due.house("member " + word + " breath 1;").about(0), 1);
        }
    }

    /** "At most 6 MEMBERS .., 5 BILLS .., numbered as told, each sort by itself"; "one of a sort too many ..: at the line's first word" */
    private static void mostOfEachSort() {
        Due.topic("most of each sort");
        String members = "";
        String bills = "";
        for (int i = 0; i < 6; i++) {
            members += "member m" + "abcdef".charAt(i) + " breath " + (i + 1) + ";";
        }
        for (int i = 0; i < 5; i++) {
            bills += "bill m" + "abcde".charAt(i) + " needs " + (i + 1) + " opens 9;";
        }
        AyeJars x = Due.house(bills + members);
        Due.is("members", x.about(0), 6);
        Due.is("bills", x.about(1), 5);
        for (int i = 0; i < 6; i++) {
            Due.is("numbered as told", x.member(i, 0), i + 1);
            Due.is("numbered as told", x.bill(i, 6), i < 5 ? i + 1 : -1);
        }
        int length = members.length() + bills.length();
        Due.fault(members + bills + "member mg breath 1;", 2, length);
        Due.fault(members + bills + "bill mg needs 1 opens 1;", 2, length);
        // at its first word, whatever is wrong behind that
        Due.fault(members + bills + " member ma breath 99;", 2, length + 1);
        Due.fault(members + bills + " bill $", 2, length + 1);
        Due.fault(members + " member", 2, members.length() + 1);
        Due.fault(bills + "\nbill", 2, bills.length() + 1);
        AyeJars again = Due.house(members + bills);
        Due.feed(again, members + bills);
        Due.is("as many again in the next house", again.house(), 6);
    }

    /** "fade, yawn .., draw .. once each"; "or a second time: at the line's first word" */
    private static void onceEach() {
        Due.topic("once each");
        Due.fault("fade 1;fade 1;", 2, 7);
        Due.fault("yawn 1; yawn 1;", 2, 8);
        Due.fault("draw 1;\n\ndraw 1;", 2, 9);
        Due.fault("yawn 0;draw 0;fade 0;yawn 0;", 2, 21);
        Due.fault("yawn 0;draw 0;fade 0;draw $;", 2, 21);
        Due.fault("yawn 0;draw 0;fade 0;fade", 2, 21);
        AyeJars x = Due.house("yawn 1;draw 1;fade 1;");
        Due.feed(x, "fade 2+2;draw 2;yawn 2;");
        Due.is("once in each house", x.house(), 0);
        Due.is("yawn", x.about(4), 2);
        Due.is("draw", x.about(3), 2);
        Due.is("units", x.about(12), 2);
        Due.feed(x, "member a breath 20;bill a needs 1 opens 1;fade 3;");
        x.house();
        x.vote(0, 0);
        Due.is("fades by the fade of this house alone", x.bill(0, 9), 3);
    }

    /** "3 a NAME told already (of its sort)" */
    private static void namesAgain() {
        Due.topic("names");
        Due.fault("member a breath 1;member a breath 1;", 3, 25);
        Due.fault("bill a needs 1 opens 1;bill b needs 1 opens 1;bill a", 3, 51);
        Due.is("of the other sort", Due.house("member a breath 1;bill a needs 1 opens 1;member b breath 1;bill b needs 1 opens 1;").about(1), 2);
        Due.is("a longer one", Due.house("member a breath 1;member aa breath 1;member aaa breath 1;").about(0), 3);
        String six = "member a breath 1;member b breath 1;member c breath 1;member d breath 1;member e breath 1;";
        for (int i = 0; i < 5; i++) {
            Due.fault(six + "member " + "abcde".charAt(i) + " breath 1;", 3, six.length() + 7);
        }
        AyeJars x = new AyeJars();
        Due.feed(x, "member a breath 1;member b breath 0;");
        Due.is("a fault", x.house(), -1);
        Due.is("end(18)", x.end(18), 18);
        Due.is("told in a text with a fault is not told", x.house(), 1);
    }

    /** "breath 1 .. 20; keeps 0 .. 9 ..; needs 1 .. 99, opens on a DAY 1 .. 60, a shelf 0 .. 9 ..; yawn (0 .. 100 ..), draw (0 .. 999 ..)"; "4 a number that can't be" */
    private static void numbersThatCannotBe() {
        Due.topic("numbers that can't be");
        range("member a breath ", 1, 20, "");
        range("member a breath 1 keeps ", 0, 9, "");
        range("bill a needs ", 1, 99, " opens 1");
        range("bill a needs 1 opens ", 1, 60, "");
        range("bill a needs 1 opens 1 shelf ", 0, 9, "");
        range("yawn ", 0, 100, "");
        range("draw ", 0, 999, "");
        range("fade ", 0, 9999, "");
    }

    private static void range(String head, int least, int most, String tail) {
        Due.house(head + least + tail + ";");
        Due.house(head + most + tail + ";");
        if (least > 0) {
            Due.fault(head + (least - 1) + tail + ";", 4, head.length());
            Due.fault(head + "0000" + tail + ";", 4, head.length());
        }
        if (most < 9999) {
            Due.fault(head + (most + 1) + tail + ";", 4, head.length());
            Due.fault(head + "9999" + tail + ";", 4, head.length());
            // at once, ahead of what is wrong behind it
            Due.fault(head + (most + 1) + " $", 4, head.length());
            Due.fault(head + (most + 1), 4, head.length());
        }
    }

    /** "keeps .. 0 if not told", "a shelf .. 0 if not told", yawn "(.. 0)", draw "(.. 0)" */
    private static void notTold() {
        Due.topic("not told");
        AyeJars x = Due.house("member a breath 1 keeps 9;member b breath 1;bill a needs 1 opens 1 shelf 9;bill b needs 1 opens 1;");
        Due.is("keeps", x.member(1, 1), 0);
        Due.is("shelf", x.bill(1, 3), 0);
        Due.is("yawn", x.about(4), 0);
        Due.is("draw", x.about(3), 0);
        Due.is("units", x.about(12), 0);
        AyeJars y = Due.house("yawn 9;draw 9;fade 9;");
        Due.feed(y, "member a breath 1;");
        y.house();
        Due.is("not told this time", y.about(4), 0);
        Due.is("not told this time", y.about(3), 0);
        Due.is("not told this time", y.about(12), 0);
    }

    /** "30 in one e"; "a unit too many ..: at its first TOKEN" */
    private static void mostUnits() {
        Due.topic("units");
        Due.is("1", Due.house("fade 1;").about(12), 1);
        Due.is("30", Due.house("fade age" + " % age".repeat(29) + ";").about(12), 30);
        Due.fault("fade age" + " % age".repeat(30) + ";", 2, 5 + 180);
        Due.fault("fade age" + " or age".repeat(30) + ";", 2, 5 + 210);
        // ( e ) is a unit, those within it are units, too
        Due.is("15 twice", Due.house("fade (1)" + "+(1)".repeat(14) + ";").about(12), 30);
        Due.fault("fade (1)" + "+(1)".repeat(14) + "+1;", 2, 5 + 60);
        Due.fault("fade (1)" + "+(1)".repeat(14) + "+(1);", 2, 5 + 60);
        Due.is("29 in one", Due.house("fade (1" + "+1".repeat(28) + ");").about(12), 30);
        Due.fault("fade (1" + "+1".repeat(29) + ");", 2, 6 + 58);
        Due.fault("fade 1" + "+1".repeat(28) + "+(1);", 2, 5 + 59);
        Due.fault("fade 1" + "+1".repeat(29) + "+not 1;", 2, 5 + 60);
        Due.fault("fade 1" + "+1".repeat(29) + " or not 1;", 2, 5 + 59 + 8);
        Due.fault("fade 1" + "+1".repeat(29) + "+;", 2, 5 + 60);
    }

    /** "a unit ( e ), or a one behind not, within 6 others at most"; "what is within 7 others: at its first TOKEN, or the not" */
    private static void deepest() {
        Due.topic("within others");
        for (int nots = 0; nots <= 8; nots++) {
            int open = 7 - nots;
            if (open >= 0) {
                String seven = "fade " + "(".repeat(open) + "not ".repeat(nots);
                int place = seven.length();
                Due.house(seven + "1" + ")".repeat(open) + ";");
                Due.fault(seven + "(1)" + ")".repeat(open) + ";", 2, place);
                Due.fault(seven + "not 1" + ")".repeat(open) + ";", 2, place);
                Due.fault(seven + "not (1)" + ")".repeat(open) + ";", 2, place);
            }
        }
        Due.fault("fade not (not (not (not (1))));", 2, 5 + 3 * 5 + 4);
        Due.house("fade not (not (not (not 1)));");
        Due.house("fade (((((((1)))))))+(((((((1)))))))+1;");
        Due.house("fade ((((((not 1))))))or((((((not 1))))));");
        Due.fault("fade (((((((1)))))))+((((((((1))))))));", 2, 5 + 16 + 7);
        Due.fault("fade 1 or not not not not not not not not 1;", 2, 10 + 28);
        // behind ) it is no longer within
        Due.house("fade ((((((1)+(1))+(1))+(1))+(1))+(1))+(((((((1)))))));");
    }

    /** "FAULTS, the first by its place .., at one place the least" */
    private static void firstFault() {
        Due.topic("the first fault");
        Due.fault("$ member", 1, 0);
        Due.fault("member $ breath 0;", 1, 7);
        Due.fault("member a breath 0; $", 4, 16);
        Due.fault("member a breath 21 $", 4, 16);
        Due.fault("member a breath 1;member a $", 3, 25);
        Due.fault("member a breath 1;member a breath 0;", 3, 25);
        Due.fault("member a breath 1;member day breath 0;", 2, 25);
        Due.fault("fade ) $;", 2, 5);
        // at one place: no token is the least, though a unit too many would stand there, too
        Due.fault("fade 1" + "+1".repeat(29) + "+$;", 1, 65);
        Due.fault("fade 1" + "+1".repeat(29) + "+12345;", 1, 65);
        Due.fault("fade 1" + "+1".repeat(29) + "+abcdefghi;", 1, 65);
        Due.fault("fade " + "(".repeat(7) + "$;", 1, 12);
        Due.fault("member abcdefghi", 1, 7);
        Due.fault("yawn 1; yawn9a;", 2, 8);
        Due.fault("yawn 99999", 1, 5);
    }

    /** "(.. the end: the text's length)" */
    private static void endOfText() {
        Due.topic("the end");
        String whole = "member a breath 5 keeps 1 ; bill b needs 1 opens 1 shelf 1 ; fade 1 + ( not age ) < 2 or 3 ; yawn 1 ; draw 1 ;";
        int fine = 0;
        for (int n = 0; n <= whole.length(); n++) {
            String text = whole.substring(0, n);
            String trimmed = text.trim();
            if (trimmed.isEmpty() || trimmed.endsWith(";")) {
                Due.house(text);
                fine++;
            } else if (text.endsWith(" ")) {
                Due.fault(text, 2, n);
            }
        }
        // none, and behind each line without and with a blank (none behind the last)
        Due.is("whole lines", fine, 1 + 4 * 2 + 1);
        Due.fault("member", 2, 6);
        Due.fault("member \n \n", 2, 10);
        Due.fault("draw 1", 2, 6);
        Due.fault("fade 1 +", 2, 8);
        Due.fault("fade (1", 2, 7);
        Due.fault("fade not", 2, 8);
    }

    /** "Of the latest house() what 0: its FAULT (0), 1: its place (NONE). NONE for another what." */
    private static void faultOfLatest() {
        Due.topic("fault");
        AyeJars x = new AyeJars();
        Due.is("ahead of all", x.fault(0), 0);
        Due.is("ahead of all", x.fault(1), -1);
        Due.feed(x, "yawn 101;");
        Due.is("not read yet", x.fault(0), 0);
        x.house();
        for (int what : Twin.outside(0, 1)) {
            Due.is("fault(" + what + ")", x.fault(what), -1);
        }
        Due.is("fault(0)", x.fault(0), 4);
        Due.is("fault(1)", x.fault(1), 5);
        x.feed(0, 0, 0, 0, 0);
        x.end(0);
        Due.is("of the latest still", x.fault(0), 4);
        Due.is("house()", x.house(), 0);
        Due.is("none now", x.fault(0), 0);
        Due.is("none now", x.fault(1), -1);
        Due.feed(x, "$");
        x.house();
        Due.is("a fault at the first byte", x.fault(1), 0);
    }

    /** "(all as told, day 0, no ACTS are kept, nothing is SNIFFED, nothing lies there, BOXES are empty then; the TIME stays)" */
    private static void allAsToldBehindHouse() {
        Due.topic("a new house");
        AyeJars x = new AyeJars();
        Twin.busy(x);
        for (int box = 0; box < 3; box++) {
            x.image(box);
        }
        x.vote(0, 1);
        Due.is("strange jars by the old house", x.fits(2), 14);
        x.end(0);
        Due.feed(x, "member z breath 7 keeps 3;member y breath 6;bill o needs 2 opens 4 shelf 8;");
        Due.is("house()", x.house(), 2);
        int[] about = {2, 1, 0, 0, 0, 0, 0, 0, 0, 0, 2, 0, 0, 0};
        for (int what = 0; what < about.length; what++) {
            Due.is("about(" + what + ")", x.about(what), about[what]);
        }
        int[] bill = {0, 0, 0, 8, 0, 0, 2, 4, 0, 0, 0};
        for (int what = 0; what < bill.length; what++) {
            Due.is("bill(0, " + what + ")", x.bill(0, what), bill[what]);
        }
        Due.is("no second bill", x.bill(1, 0), -1);
        Due.is("all may vote", x.member(0, 3) + x.member(1, 3), 2);
        Due.is("undo()", x.undo(), false);
        Due.is("redo()", x.redo(), false);
        Due.is("untell(0)", x.untell(0), false);
        for (int box = 0; box < 3; box++) {
            Due.is("back(" + box + ")", x.back(box), -1);
        }
        Due.is("lies(0)", x.lies(0), -2);
        Due.is("strange jars by the new house", x.sniffed(0, 8, true), 0);
        Due.is("7 and 6 together alone", x.fits(2), 1);
        Due.is("told at the time that stayed", x.fits(1), 4);
        Due.is("fades by loss, as fade is not told", x.vote(0, 0) - x.bill(0, 9), 4);
    }

    /** "NONE: a FAULT (all stays)." */
    private static void allStaysBehindFault() {
        Due.topic("a fault");
        AyeJars x = new AyeJars();
        AyeJars twin = new AyeJars();
        Twin.busy(x);
        Twin.busy(twin);
        Due.is("house()", x.house(), -1);
        Due.is("fault(0)", x.fault(0), 2);
        Due.is("fault(1)", x.fault(1), 0);
        for (int what = 0; what <= 13; what++) {
            Due.is("about(" + what + ")", x.about(what), twin.about(what));
        }
        Due.is("a fault's place", twin.fault(1), -1);
        // both have a fault now: all else is the same
        Twin.refused("house()", y -> {
            Twin.busy(y);
            y.house();
        }, AyeJars::house, -1);
        Due.is("the tape stays", x.about(11), 20);
        Due.is("lies(0)", x.lies(0), twin.lies(0));
        Due.is("back(1)", x.back(1), 1);
        Due.is("untell(0)", x.untell(0), true);
        for (int b = 0; b < 5; b++) {
            for (int what = 6; what < 8; what++) {
                Due.is("bill(" + b + ", " + what + ")", x.bill(b, what), twin.bill(b, what));
            }
        }
    }
}
