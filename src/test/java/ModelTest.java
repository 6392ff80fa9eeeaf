import java.util.Random;

/** Runs of calls, drawn by a fixed seed, whose answers are compared with the plain model's. */
public final class ModelTest {
    private static final String[] VARIABLES = {"volume", "age", "loss", "shelf", "shaken", "day"};
    private static final String ODD_BYTES = ";()<>=+-*/% \n09azmA_$\t";
    private static final int[] FEW = {-1, 0, 1, 2, 3, 4, 5, 6, 7};

    private static int wrong;
    private static long calls;
    private static final int[] answered = new int[45];

    private final Random random;
    private final AyeJars jars = new AyeJars();
    private final Model model = new Model();
    private final StringBuilder history = new StringBuilder();

    private ModelTest(long seed) {
        random = new Random(seed);
    }

    public static void main(String[] args) {
        int runs = args.length > 0 ? Integer.parseInt(args[0]) : 1500;
        long first = args.length > 1 ? Long.parseLong(args[1]) : 1;
        for (int i = 0; i < runs && wrong < 5; i++) {
            new ModelTest(first + i).run(60 + i % 5 * 80);
        }
        for (int i = 0; i < 45; i++) {
            if (answered[i] == 0 && runs >= 100) {
                wrong++;
                System.out.println("call sort " + i + " was never made");
            }
        }
        System.out.println("ModelTest: " + calls + " calls, " + wrong + " wrong");
        if (wrong != 0) {
            System.exit(1);
        }
    }

    // ---- texts

    private int upTo(int n) {
        return random.nextInt(n + 1);
    }

    private String gap() {
        return switch (upTo(5)) {
            case 0 -> "\n";
            case 1 -> "  ";
            default -> " ";
        };
    }

    private String unit(int depth) {
        int pick = upTo(11);
        if (pick < 6) {
            return VARIABLES[pick];
        }
        if (pick < 9 || depth == 0) {
            return "" + (upTo(4) == 0 ? upTo(9999) : upTo(9));
        }
        return "(" + formula(depth - 1) + ")";
    }

    private String term(int depth) {
        String t = unit(depth);
        while (upTo(3) == 0) {
            t += "*/%".charAt(upTo(2)) + unit(depth);
        }
        return t;
    }

    private String sum(int depth) {
        String t = term(depth);
        while (upTo(2) == 0) {
            t += " " + "+-".charAt(upTo(1)) + " " + term(depth);
        }
        return t;
    }

    private String one(int depth) {
        if (depth > 0 && upTo(8) == 0) {
            return "not " + one(depth - 1);
        }
        String t = sum(depth);
        return upTo(4) == 0 ? t + "<>=".charAt(upTo(2)) + sum(depth) : t;
    }

    private String formula(int depth) {
        String t = one(depth);
        while (upTo(5) == 0) {
            t += (upTo(1) == 0 ? " and " : " or ") + one(depth);
        }
        return t;
    }

    private String name() {
        String t = "";
        int n = upTo(9) == 0 ? 8 : 1 + upTo(1);
        for (int i = 0; i < n; i++) {
            t += (char) ('a' + upTo(25));
        }
        return t;
    }

    private String lines(int members, int bills, int days) {
        StringBuilder t = new StringBuilder();
        for (int i = 0; i < members; i++) {
            t.append("member").append(gap()).append(name()).append(gap()).append("breath ")
                    .append(1 + upTo(19));
            if (upTo(3) != 0) {
                t.append(" keeps ").append(upTo(upTo(2) == 0 ? 9 : 2));
            }
            t.append(upTo(1) == 0 ? ";" : gap() + ";" + gap());
        }
        if (upTo(3) != 0) {
            int sort = upTo(5);
            String f = sort == 0 ? "loss + shaken"
                    : sort == 1 ? "volume % (2 + shelf) + (age > 2) * loss"
                    : sort == 2 ? "shaken * 3 + (day % 3 = 1) * 4 - shelf"
                    : formula(1 + upTo(2));
            t.append("fade ").append(f).append(";");
        }
        for (int i = 0; i < bills; i++) {
            t.append("bill ").append(name()).append(" needs ").append(1 + upTo(upTo(3) == 0 ? 98 : 29))
                    .append(gap()).append("opens ").append(1 + upTo(days - 1));
            if (upTo(2) == 0) {
                t.append(" shelf ").append(upTo(9));
            }
            t.append(";").append(upTo(2) == 0 ? gap() : "");
        }
        if (upTo(2) != 0) {
            t.append("yawn ").append(upTo(2) == 0 ? upTo(100) : upTo(30)).append(';');
        }
        if (upTo(2) != 0) {
            t.append("draw ").append(upTo(999)).append(';');
        }
        return t.toString();
    }

    private String houseText() {
        boolean large = upTo(9) == 0;
        int days = upTo(6) == 0 ? 60 : 1 + upTo(9);
        return lines(large ? 6 : upTo(4), large ? 5 : upTo(4), days);
    }

    private String oddText() {
        switch (upTo(5)) {
            case 0:
                return lines(5 + upTo(2), 4 + upTo(2), 60);
            case 1:
                return "fade " + "(".repeat(upTo(9)) + "not ".repeat(upTo(9)) + "1" + ")".repeat(upTo(9)) + ";";
            case 2:
                return "fade " + "1+".repeat(26 + upTo(3)) + (upTo(1) == 0 ? "(2)" : "(age*(3))") + ";";
            case 3:
                return "fade " + "not(not not ".repeat(upTo(3)) + formula(3) + ")".repeat(upTo(3)) + ";";
            default:
                StringBuilder t = new StringBuilder(lines(upTo(3), upTo(3), 60));
                for (int i = upTo(2); i >= 0; i--) {
                    spoil(t);
                }
                return t.toString();
        }
    }

    private void spoil(StringBuilder t) {
        int at = upTo(t.length());
        switch (upTo(4)) {
            case 0:
                t.insert(at, ODD_BYTES.charAt(upTo(ODD_BYTES.length() - 1)));
                break;
            case 1:
                t.insert(at, (char) upTo(255));
                break;
            case 2:
                t.insert(at, " " + Model.WORDS.get(upTo(17)) + " ");
                break;
            case 3:
                t.setLength(at);
                break;
            default:
                t.delete(at, Math.min(t.length(), at + 1 + upTo(2)));
                break;
        }
    }

    private void feedText(String text) {
        for (int i = 0; i < text.length(); i += 20) {
            int[] n = new int[5];
            for (int j = 0; j < 20; j++) {
                int c = i + j < text.length() ? text.charAt(i + j) : 32;
                n[j / 4] |= c << 24 - j % 4 * 8;
            }
            same("feed", jars.feed(n[0], n[1], n[2], n[3], n[4]),
                    model.feed(n[0], n[1], n[2], n[3], n[4]));
        }
        int end = text.length();
        same("end", jars.end(end), model.end(end));
    }

    private void tellHouse(String text) {
        same("end", jars.end(0), model.end(0));
        history.append("\n--- ").append(text).append("\n--- ");
        feedText(text);
        same("house", jars.house(), model.house());
        same("fault 0", jars.fault(0), model.fault(0));
        same("fault 1", jars.fault(1), model.fault(1));
    }

    // ---- calls

    private void same(String call, int got, int due) {
        calls++;
        history.append(call).append(" = ").append(due).append("; ");
        if (got != due && wrong < 5) {
            wrong++;
            System.out.println(call + " answered " + got + ", the model says " + due + " behind:\n"
                    + history + "\n");
        }
    }

    private void run(int count) {
        tellHouse(upTo(3) == 0 ? oddText() : houseText());
        for (int i = 0; i < count; i++) {
            int sort = upTo(2) == 0 ? 40 + upTo(4) : upTo(39);
            call(upTo(2) == 0 ? 4 + upTo(4) : sort == 0 && upTo(5) != 0 ? 5 : sort);
            if (upTo(30) == 0) {
                compareAll();
            }
        }
        compareAll();
    }

    private int few() {
        return upTo(20) == 0 ? random.nextInt() : FEW[upTo(FEW.length - 1)];
    }

    private int aMember() {
        return upTo(12) == 0 ? few() : upTo(Math.max(0, model.members() - 1));
    }

    private int aBill() {
        return upTo(12) == 0 ? few() : upTo(Math.max(0, model.bills() - 1));
    }

    private int aSet() {
        return upTo(12) == 0 ? random.nextInt() : upTo(5) == 0 ? upTo(64) - 1 : upTo((1 << model.members()) - 1);
    }

    private int aTime() {
        return upTo(15) == 0 ? random.nextInt() : upTo(model.time + 3) - 1;
    }

    private void call(int sort) {
        answered[sort]++;
        int m = aMember();
        int b = aBill();
        int o = aBill();
        int set = aSet();
        int few = few();
        int part = upTo(10) == 0 ? few : upTo(1);
        switch (sort) {
            case 0 -> tellHouse(upTo(2) == 0 ? oddText() : houseText());
            case 1 -> same("fault " + few, jars.fault(few), model.fault(few));
            case 2 -> same("member " + m + " " + few, jars.member(m, few), model.member(m, few));
            case 3 -> {
                int what = upTo(13) - 1;
                same("bill " + b + " " + what, jars.bill(b, what), model.bill(b, what));
            }
            case 4, 5 -> same("vote " + m + " " + b, jars.vote(m, b), model.vote(m, b));
            case 6 -> same("shake " + b, jars.shake(b), model.shake(b));
            case 7 -> {
                int shelf = upTo(11) - 1;
                same("shelve " + b + " " + shelf, jars.shelve(b, shelf), model.shelve(b, shelf));
            }
            case 8 -> same("day", jars.day(), model.day());
            case 9 -> same("join " + b + " " + o, jars.join(b, o), model.join(b, o));
            case 10 -> same("undo", jars.undo() ? 1 : 0, model.undo() ? 1 : 0);
            case 11 -> same("redo", jars.redo() ? 1 : 0, model.redo() ? 1 : 0);
            case 12 -> {
                int n = upTo(62) - 1;
                same("will " + b + " " + n, jars.will(b, n), model.will(b, n));
            }
            case 13 -> same("dull " + b, jars.dull(b), model.dull(b));
            case 14 -> same("pass", jars.pass(), model.pass());
            case 15 -> same("muster " + b + " " + part, jars.muster(b, part), model.muster(b, part));
            case 16 -> same("latest " + m + " " + b, jars.latest(m, b), model.latest(m, b));
            case 17 -> same("plan", jars.plan(), model.plan());
            case 18 -> same("power " + m + " " + b + " " + part, jars.power(m, b, part), model.power(m, b, part));
            case 19 -> same("best " + b, jars.best(b), model.best(b));
            case 20 -> same("joint " + b + " " + o, jars.joint(b, o), model.joint(b, o));
            case 21 -> {
                int n = upTo(220) - 110;
                same("law " + n, jars.law(n), model.law(n));
            }
            case 22 -> same("odds " + b + " " + set + " " + part, jars.odds(b, set, part), model.odds(b, set, part));
            case 23 -> same("mean " + b + " " + set + " " + part, jars.mean(b, set, part), model.mean(b, set, part));
            case 24 -> same("ripe " + b + " " + set + " " + part, jars.ripe(b, set, part), model.ripe(b, set, part));
            case 25 -> same("queue " + b, jars.queue(b), model.queue(b));
            case 26 -> same("spoil " + b, jars.spoil(b), model.spoil(b));
            case 27 -> {
                int n = upTo(7) == 0 ? few : 1 + upTo(2);
                same("sabotage " + n, jars.sabotage(n), model.sabotage(n));
            }
            case 28 -> same("wasted", jars.wasted(), model.wasted());
            case 29 -> same("richest", jars.richest(), model.richest());
            case 30 -> same("matches", jars.matches(), model.matches());
            case 31 -> same("brittle", jars.brittle(), model.brittle());
            case 32 -> {
                int n = upTo(62) - 1;
                same("longest " + n, jars.longest(n), model.longest(n));
            }
            case 33 -> same("lies " + few, jars.lies(few), model.lies(few));
            case 34, 35 -> callSniffed();
            case 36 -> {
                int i = upTo(Math.max(1, model.sniffs.size())) - upTo(1);
                same("untell " + i, jars.untell(i) ? 1 : 0, model.untell(i) ? 1 : 0);
            }
            case 37 -> {
                int by = upTo(6) == 0 ? upTo(1010) - 5 : upTo(3);
                same("later " + by, jars.later(by), model.later(by));
            }
            case 38 -> {
                int box = upTo(9) == 0 ? few : upTo(2);
                same("image " + box, jars.image(box), model.image(box));
            }
            case 39 -> {
                int box = upTo(9) == 0 ? few : upTo(2);
                same("back " + box, jars.back(box), model.back(box));
            }
            case 40 -> callFits();
            case 41 -> {
                int k = aTime();
                same("sure " + m + " " + k, jars.sure(m, k), model.sure(m, k));
            }
            case 42 -> {
                int k = aTime();
                same("ask " + part + " " + k, jars.ask(part, k), model.ask(part, k));
            }
            default -> {
                int what = upTo(15) - 1;
                same("about " + what, jars.about(what), model.about(what));
            }
        }
        if (sort == 17 || sort == 25 || sort == 27) {
            compareLying();
        }
    }

    private void callSniffed() {
        int age = upTo(22) - 1;
        int set = upTo((1 << model.members()) - 1);
        int volume = upTo(8) == 0 ? upTo(1100) - 50 : Math.max(0, model.leftOf(set, 0, Math.max(age, 0)) + upTo(3) - 1);
        boolean is = upTo(3) != 0;
        same("sniffed " + age + " " + volume + " " + is, jars.sniffed(age, volume, is), model.sniffed(age, volume, is));
    }

    private void callFits() {
        int k = aTime();
        same("fits " + k, jars.fits(k), model.fits(k));
    }

    private void compareLying() {
        for (int i = -1; i <= 6; i++) {
            same("lies " + i, jars.lies(i), model.lies(i));
        }
    }

    private void compareAll() {
        for (int what = -1; what <= 14; what++) {
            same("about " + what, jars.about(what), model.about(what));
        }
        for (int b = -1; b <= 5; b++) {
            for (int what = -1; what <= 11; what++) {
                same("bill " + b + " " + what, jars.bill(b, what), model.bill(b, what));
            }
        }
        for (int m = -1; m <= 6; m++) {
            for (int what = -1; what <= 5; what++) {
                same("member " + m + " " + what, jars.member(m, what), model.member(m, what));
            }
        }
    }
}
