import java.math.BigInteger;
import java.util.ArrayList;
import java.util.Arrays;
import java.util.HashMap;
import java.util.List;
import java.util.Map;
import java.util.regex.Matcher;
import java.util.regex.Pattern;

/**
 * The document told again as slowly and plainly as can be, with the whole Java library: every
 * question is answered by doing acts on copies of all jars. It is what AyeJars is compared with.
 */
final class Model {
    static final int NONE = -1;

    static final class Fault extends RuntimeException {
        private static final long serialVersionUID = 1;
        final int kind;
        final int place;

        Fault(int kind, int place) {
            this.kind = kind;
            this.place = place;
        }
    }

    interface Formula {
        int of(int volume, int age, int loss, int shelf, int shaken, int day);
    }

    static final class Member {
        String name;
        int breath;
        int keeps;
    }

    static final class Bill {
        String name;
        int needs;
        int opens;
        int shelf;
    }

    static final class House {
        final List<Member> members = new ArrayList<>();
        final List<Bill> bills = new ArrayList<>();
        Formula fade;
        Integer yawn;
        Integer draw;
        int units;
    }

    static final class Jar {
        int volume;
        int breaths;
        int age;
        int shelf;
        int shaken;
        int fate;

        Jar copy() {
            Jar j = new Jar();
            j.volume = volume;
            j.breaths = breaths;
            j.age = age;
            j.shelf = shelf;
            j.shaken = shaken;
            j.fate = fate;
            return j;
        }
    }

    /** All that acts change; each act is a method that changes this one. */
    final class State {
        final List<Jar> jars = new ArrayList<>();
        int voted;
        int day;
        int seed;

        State copy() {
            State s = new State();
            for (Jar j : jars) {
                s.jars.add(j.copy());
            }
            s.voted = voted;
            s.day = day;
            s.seed = seed;
            return s;
        }

        int loss(Jar j) {
            int sum = 0;
            for (int m = 0; m < house.members.size(); m++) {
                if ((j.breaths & 1 << m) != 0) {
                    sum += house.members.get(m).keeps;
                }
            }
            return sum;
        }

        int fading(Jar j) {
            if (j.breaths == 0) {
                return 0;
            }
            int f = house.fade == null ? loss(j)
                    : house.fade.of(j.volume, j.age, loss(j), j.shelf, j.shaken, day);
            return f < 0 ? 0 : f > j.volume ? j.volume : f;
        }

        boolean may(int m, int b) {
            return jars.get(b).fate == 0 && (voted & 1 << m) == 0
                    && (jars.get(b).breaths & 1 << m) == 0;
        }

        void breathe(int m, int b) {
            Jar j = jars.get(b);
            j.breaths |= 1 << m;
            j.volume = Math.min(999, j.volume + house.members.get(m).breath);
        }

        void breatheAll(int set, int b) {
            for (int m = 0; m < house.members.size(); m++) {
                if ((set & 1 << m) != 0) {
                    breathe(m, b);
                }
            }
        }

        void voteWithYawns(int m, int b) {
            seed = (seed * 137 + 71) % 1000;
            voted |= 1 << m;
            if (seed % 100 >= (house.yawn == null ? 0 : house.yawn)) {
                breathe(m, b);
            }
        }

        void join(int a, int b) {
            Jar x = jars.get(a);
            Jar y = jars.get(b);
            x.volume = Math.min(999, x.volume + y.volume);
            x.breaths |= y.breaths;
            x.age = Math.max(x.age, y.age);
            x.shaken = Math.min(99, x.shaken + y.shaken);
            y.volume = 0;
            y.breaths = 0;
            y.age = 0;
            y.shaken = 0;
        }

        int day(boolean opening) {
            int forced = 0;
            for (Jar j : jars) {
                if (j.fate == 0 && j.breaths != 0) {
                    j.volume -= fading(j);
                    j.age++;
                }
            }
            day++;
            for (int b = 0; b < jars.size() && opening; b++) {
                Jar j = jars.get(b);
                if (j.fate == 0 && house.bills.get(b).opens == day) {
                    boolean enough = j.volume >= house.bills.get(b).needs;
                    j.fate = enough ? 1 : 2;
                    forced |= enough ? 1 << b : 0;
                }
            }
            voted = 0;
            return forced;
        }

        /** Goes on till its day; the jars that are kept then are opened. */
        Jar onItsDay(int b) {
            while (jars.get(b).fate == 0) {
                day(true);
            }
            return jars.get(b);
        }

        boolean passes(int b) {
            return jars.get(b).fate == 0 && copy().onItsDay(b).fate == 1;
        }

        int volumeOnDay(int b) {
            return copy().onItsDay(b).volume;
        }
    }

    static final class Sniff {
        int age;
        int volume;
        boolean is;
        int told;
        Integer untold;
    }

    House house = new House();
    State now = new State();
    final List<State> undo = new ArrayList<>();
    final List<State> redo = new ArrayList<>();
    State[] boxes = new State[3];
    final StringBuilder tape = new StringBuilder();
    int fault;
    int place = NONE;
    List<Integer> lying = new ArrayList<>();
    final List<Sniff> sniffs = new ArrayList<>();
    int time;

    // ---- the text

    static final List<String> WORDS = Arrays.asList("member", "breath", "keeps", "bill", "needs",
            "opens", "shelf", "fade", "yawn", "draw", "or", "and", "not", "volume", "age", "loss",
            "shaken", "day");

    static final class Parser {
        static final Pattern RUN = Pattern.compile("[a-z]+|[0-9]+|[;()<>=+*/%-]");
        final List<String> tokens = new ArrayList<>();
        final List<Integer> places = new ArrayList<>();
        int at;
        final House house = new House();

        /** "!" stands for no token, "" for the end. */
        Parser(String text) {
            int i = 0;
            while (true) {
                while (i < text.length() && (text.charAt(i) == ' ' || text.charAt(i) == '\n')) {
                    i++;
                }
                places.add(i);
                if (i == text.length()) {
                    tokens.add("");
                    return;
                }
                Matcher m = RUN.matcher(text).region(i, text.length());
                if (!m.lookingAt()) {
                    tokens.add("!");
                    return;
                }
                String t = m.group();
                boolean number = Character.isDigit(t.charAt(0));
                boolean letterBehind = m.end() < text.length()
                        && text.charAt(m.end()) >= 'a' && text.charAt(m.end()) <= 'z';
                if (t.length() > (number ? 4 : 8) || number && letterBehind) {
                    tokens.add("!");
                    return;
                }
                tokens.add(t);
                i = m.end();
            }
        }

        String peek() {
            return tokens.get(at);
        }

        Fault wrong(int kind) {
            return new Fault(peek().equals("!") ? 1 : kind, places.get(at));
        }

        void need(String t) {
            if (!peek().equals(t)) {
                throw wrong(2);
            }
            at++;
        }

        boolean isNumber() {
            return !peek().isEmpty() && Character.isDigit(peek().charAt(0));
        }

        int number(String word, int least, int most) {
            need(word);
            if (!isNumber()) {
                throw wrong(2);
            }
            int n = Integer.parseInt(peek());
            if (n < least || n > most) {
                throw wrong(4);
            }
            at++;
            return n;
        }

        String name(List<String> told) {
            String t = peek();
            if (t.isEmpty() || !Character.isLetter(t.charAt(0)) || WORDS.contains(t)) {
                throw wrong(2);
            }
            if (told.contains(t)) {
                throw wrong(3);
            }
            told.add(t);
            at++;
            return t;
        }

        House parse() {
            List<String> members = new ArrayList<>();
            List<String> bills = new ArrayList<>();
            while (!peek().isEmpty()) {
                switch (peek()) {
                    case "member" -> {
                        if (members.size() == 6) {
                            throw wrong(2);
                        }
                        at++;
                        Member m = new Member();
                        m.name = name(members);
                        m.breath = number("breath", 1, 20);
                        m.keeps = peek().equals("keeps") ? number("keeps", 0, 9) : 0;
                        house.members.add(m);
                    }
                    case "bill" -> {
                        if (bills.size() == 5) {
                            throw wrong(2);
                        }
                        at++;
                        Bill b = new Bill();
                        b.name = name(bills);
                        b.needs = number("needs", 1, 99);
                        b.opens = number("opens", 1, 60);
                        b.shelf = peek().equals("shelf") ? number("shelf", 0, 9) : 0;
                        house.bills.add(b);
                    }
                    case "fade" -> {
                        if (house.fade != null) {
                            throw wrong(2);
                        }
                        at++;
                        house.fade = e(0);
                    }
                    case "yawn" -> {
                        if (house.yawn != null) {
                            throw wrong(2);
                        }
                        house.yawn = number("yawn", 0, 100);
                    }
                    case "draw" -> {
                        if (house.draw != null) {
                            throw wrong(2);
                        }
                        house.draw = number("draw", 0, 999);
                    }
                    default -> throw wrong(2);
                }
                need(";");
            }
            return house;
        }

        Formula e(int within) {
            Formula left = both(within);
            while (peek().equals("or")) {
                at++;
                left = two("or", left, both(within));
            }
            return left;
        }

        Formula both(int within) {
            Formula left = one(within);
            while (peek().equals("and")) {
                at++;
                left = two("and", left, one(within));
            }
            return left;
        }

        Formula one(int within) {
            if (peek().equals("not")) {
                if (within == 7) {
                    throw wrong(2);
                }
                at++;
                Formula f = one(within + 1);
                return (v, a, l, s, k, d) -> f.of(v, a, l, s, k, d) == 0 ? 1 : 0;
            }
            Formula left = sum(within);
            if (peek().equals("<") || peek().equals(">") || peek().equals("=")) {
                String sign = tokens.get(at++);
                left = two(sign, left, sum(within));
            }
            return left;
        }

        Formula sum(int within) {
            Formula left = term(within);
            while (peek().equals("+") || peek().equals("-")) {
                String sign = tokens.get(at++);
                left = two(sign, left, term(within));
            }
            return left;
        }

        Formula term(int within) {
            Formula left = unit(within);
            while (peek().equals("*") || peek().equals("/") || peek().equals("%")) {
                String sign = tokens.get(at++);
                left = two(sign, left, unit(within));
            }
            return left;
        }

        Formula unit(int within) {
            if (house.units == 30) {
                throw wrong(2);
            }
            if (isNumber()) {
                int n = Integer.parseInt(tokens.get(at++));
                house.units++;
                return (v, a, l, s, k, d) -> n;
            }
            Formula f;
            switch (peek()) {
                case "volume" -> f = (v, a, l, s, k, d) -> v;
                case "age" -> f = (v, a, l, s, k, d) -> a;
                case "loss" -> f = (v, a, l, s, k, d) -> l;
                case "shelf" -> f = (v, a, l, s, k, d) -> s;
                case "shaken" -> f = (v, a, l, s, k, d) -> k;
                case "day" -> f = (v, a, l, s, k, d) -> d;
                case "(" -> {
                    if (within == 7) {
                        throw wrong(2);
                    }
                    at++;
                    house.units++;
                    f = e(within + 1);
                    need(")");
                    return f;
                }
                default -> throw wrong(2);
            }
            at++;
            house.units++;
            return f;
        }

        static Formula two(String sign, Formula x, Formula y) {
            return (v, a, l, s, k, d) ->
                    compute(sign, x.of(v, a, l, s, k, d), y.of(v, a, l, s, k, d));
        }

        static int compute(String sign, int x, int y) {
            return switch (sign) {
                case "+" -> x + y;
                case "-" -> x - y;
                case "*" -> x * y;
                case "/" -> y == 0 ? 0 : (int) ((long) x / y);
                case "%" -> y == 0 ? 0 : (int) ((long) x % y);
                case "<" -> x < y ? 1 : 0;
                case ">" -> x > y ? 1 : 0;
                case "=" -> x == y ? 1 : 0;
                case "and" -> x != 0 && y != 0 ? 1 : 0;
                default -> x != 0 || y != 0 ? 1 : 0;
            };
        }
    }

    int feed(int a, int b, int c, int d, int e) {
        if (tape.length() + 20 > 1600) {
            return NONE;
        }
        for (int n : new int[] {a, b, c, d, e}) {
            for (int i = 3; i >= 0; i--) {
                tape.append((char) (n >>> 8 * i & 255));
            }
        }
        return tape.length();
    }

    int end(int n) {
        if (n < 0 || n > tape.length()) {
            return NONE;
        }
        tape.setLength(n);
        return n;
    }

    int house() {
        try {
            House read = new Parser(tape.toString()).parse();
            fault = 0;
            place = NONE;
            house = read;
        } catch (Fault f) {
            fault = f.kind;
            place = f.place;
            return NONE;
        }
        tape.setLength(0);
        now = new State();
        for (Bill b : house.bills) {
            Jar j = new Jar();
            j.shelf = b.shelf;
            now.jars.add(j);
        }
        now.seed = house.draw == null ? 0 : house.draw;
        undo.clear();
        redo.clear();
        sniffs.clear();
        lying.clear();
        boxes = new State[3];
        return members();
    }

    int fault(int what) {
        return what == 0 ? fault : what == 1 ? place : NONE;
    }

    // ---- what is

    int members() {
        return house.members.size();
    }

    int bills() {
        return house.bills.size();
    }

    boolean isMember(int m) {
        return m >= 0 && m < members();
    }

    boolean isBill(int b) {
        return b >= 0 && b < bills();
    }

    boolean isKept(int b) {
        return isBill(b) && now.jars.get(b).fate == 0;
    }

    boolean isSet(int set) {
        return set >= 0 && set < 1 << members();
    }

    int member(int m, int what) {
        if (!isMember(m)) {
            return NONE;
        }
        int may = 0;
        int in = 0;
        for (int b = 0; b < bills(); b++) {
            may |= now.may(m, b) ? 1 << b : 0;
            in |= (now.jars.get(b).breaths & 1 << m) != 0 ? 1 << b : 0;
        }
        return switch (what) {
            case 0 -> house.members.get(m).breath;
            case 1 -> house.members.get(m).keeps;
            case 2 -> (now.voted & 1 << m) == 0 ? 1 : 0;
            case 3 -> may;
            case 4 -> in;
            default -> NONE;
        };
    }

    int bill(int b, int what) {
        if (!isBill(b)) {
            return NONE;
        }
        Jar j = now.jars.get(b);
        return switch (what) {
            case 0 -> j.volume;
            case 1 -> j.breaths;
            case 2 -> j.age;
            case 3 -> j.shelf;
            case 4 -> j.shaken;
            case 5 -> j.fate;
            case 6 -> house.bills.get(b).needs;
            case 7 -> house.bills.get(b).opens;
            case 8 -> now.loss(j);
            case 9 -> j.fate == 0 ? now.fading(j) : 0;
            case 10 -> now.passes(b) ? 1 : 0;
            default -> NONE;
        };
    }

    // ---- acts

    void begin() {
        undo.add(now.copy());
        if (undo.size() > 40) {
            undo.remove(0);
        }
        redo.clear();
    }

    int vote(int m, int b) {
        if (!isMember(m) || !isBill(b) || !now.may(m, b)) {
            return NONE;
        }
        begin();
        now.voteWithYawns(m, b);
        return now.jars.get(b).volume;
    }

    int shake(int b) {
        if (!isKept(b) || now.jars.get(b).breaths == 0 || now.jars.get(b).shaken == 99) {
            return NONE;
        }
        begin();
        return now.jars.get(b).shaken++;
    }

    int shelve(int b, int shelf) {
        if (!isKept(b) || shelf < 0 || shelf > 9 || now.jars.get(b).shelf == shelf) {
            return NONE;
        }
        begin();
        int was = now.jars.get(b).shelf;
        now.jars.get(b).shelf = shelf;
        return was;
    }

    boolean canJoin(int a, int b) {
        return a != b && isKept(a) && isKept(b) && now.jars.get(b).breaths != 0;
    }

    int join(int a, int b) {
        if (!canJoin(a, b)) {
            return NONE;
        }
        begin();
        now.join(a, b);
        return now.jars.get(a).volume;
    }

    int day() {
        if (now.day == 999) {
            return NONE;
        }
        begin();
        return now.day(true);
    }

    boolean undo() {
        if (undo.isEmpty()) {
            return false;
        }
        redo.add(now);
        now = undo.remove(undo.size() - 1);
        return true;
    }

    boolean redo() {
        if (redo.isEmpty()) {
            return false;
        }
        undo.add(now);
        now = redo.remove(redo.size() - 1);
        return true;
    }

    // ---- what lies ahead

    int will(int b, int n) {
        if (!isKept(b) || n < 0 || n > 60) {
            return NONE;
        }
        State s = now.copy();
        for (int i = 0; i < n; i++) {
            s.day(false);
        }
        return s.jars.get(b).volume;
    }

    int dull(int b) {
        for (int n = 0; n <= 60 && isKept(b); n++) {
            if (will(b, n) < house.bills.get(b).needs) {
                return n;
            }
        }
        return NONE;
    }

    int pass() {
        int bits = 0;
        for (int b = 0; b < bills(); b++) {
            bits |= now.passes(b) ? 1 << b : 0;
        }
        return bits;
    }

    boolean allMay(int set, int b) {
        for (int m = 0; m < members(); m++) {
            if ((set & 1 << m) != 0 && !now.may(m, b)) {
                return false;
            }
        }
        return true;
    }

    State with(int set, int b) {
        State s = now.copy();
        s.breatheAll(set, b);
        return s;
    }

    int muster(int b, int what) {
        if (!isKept(b) || what < 0 || what > 1) {
            return NONE;
        }
        for (int count = 0; count <= members(); count++) {
            for (int set = 0; set < 1 << members(); set++) {
                if (Integer.bitCount(set) == count && allMay(set, b) && with(set, b).passes(b)) {
                    return what == 0 ? count : set;
                }
            }
        }
        return NONE;
    }

    int latest(int m, int b) {
        if (!isMember(m) || !isKept(b)) {
            return NONE;
        }
        int found = NONE;
        State s = now.copy();
        for (int n = 0; s.jars.get(b).fate == 0; n++) {
            if (s.may(m, b)) {
                State t = s.copy();
                t.breathe(m, b);
                found = t.passes(b) ? n : found;
            }
            s.day(true);
        }
        return found;
    }

    int plan() {
        Map<Integer, Boolean> passes = new HashMap<>();
        int[] choice = new int[members()];
        int[] best = null;
        int bestCount = 0;
        int bestVotes = 0;
        int all = 1;
        for (int m = 0; m < members(); m++) {
            all *= bills() + 1;
        }
        for (int code = 0; code < all; code++) {
            int left = code;
            int votes = 0;
            boolean fine = true;
            int[] sets = new int[bills()];
            for (int m = members() - 1; m >= 0; m--) {
                choice[m] = left % (bills() + 1) - 1;
                left /= bills() + 1;
                if (choice[m] >= 0) {
                    fine &= now.may(m, choice[m]);
                    votes++;
                    sets[choice[m]] |= 1 << m;
                }
            }
            if (!fine) {
                continue;
            }
            int count = 0;
            for (int b = 0; b < bills(); b++) {
                int bill = b;
                count += passes.computeIfAbsent(b * 64 + sets[b],
                        x -> with(sets[bill], bill).passes(bill)) ? 1 : 0;
            }
            if (best == null || count > bestCount || count == bestCount && votes < bestVotes) {
                best = choice.clone();
                bestCount = count;
                bestVotes = votes;
            }
        }
        lying.clear();
        for (int c : best) {
            lying.add(c);
        }
        return bestCount;
    }

    static List<List<Integer>> orders(List<Integer> of) {
        List<List<Integer>> all = new ArrayList<>();
        if (of.isEmpty()) {
            all.add(new ArrayList<>());
        }
        for (Integer first : of) {
            List<Integer> rest = new ArrayList<>(of);
            rest.remove(first);
            for (List<Integer> order : orders(rest)) {
                order.add(0, first);
                all.add(order);
            }
        }
        return all;
    }

    int power(int m, int b, int part) {
        if (!isMember(m) || !isKept(b) || part < 0 || part > 1) {
            return NONE;
        }
        List<Integer> everybody = new ArrayList<>();
        for (int i = 0; i < members(); i++) {
            everybody.add(i);
        }
        State empty = now.copy();
        Jar j = empty.jars.get(b);
        j.volume = 0;
        j.breaths = 0;
        j.age = 0;
        Map<Integer, Boolean> passes = new HashMap<>();
        for (int set = 0; set < 1 << members(); set++) {
            State s = empty.copy();
            s.breatheAll(set, b);
            passes.put(set, s.passes(b));
        }
        int count = 0;
        List<List<Integer>> orders = orders(everybody);
        for (List<Integer> order : orders) {
            int set = 0;
            for (int i : order) {
                int behind = set | 1 << i;
                if (i == m && passes.get(behind) && !passes.get(set)) {
                    count++;
                }
                set = behind;
            }
        }
        return part(BigInteger.valueOf(count), BigInteger.valueOf(orders.size()), part);
    }

    static int part(BigInteger upper, BigInteger lower, int part) {
        BigInteger g = upper.gcd(lower);
        return (part == 0 ? upper : lower).divide(g).intValueExact();
    }

    int best(int b) {
        int best = NONE;
        int most = NONE;
        for (int shelf = 0; shelf <= 9 && isKept(b); shelf++) {
            State s = now.copy();
            s.jars.get(b).shelf = shelf;
            if (s.volumeOnDay(b) > most) {
                most = s.volumeOnDay(b);
                best = shelf;
            }
        }
        return best;
    }

    int joint(int a, int b) {
        if (!canJoin(a, b)) {
            return NONE;
        }
        State s = now.copy();
        s.join(a, b);
        return s.volumeOnDay(a);
    }

    int law(int n) {
        if (n < -99 || n > 99) {
            return NONE;
        }
        int count = 0;
        for (int b = 0; b < bills(); b++) {
            count += isKept(b) && now.volumeOnDay(b) >= house.bills.get(b).needs + n ? 1 : 0;
        }
        return count;
    }

    int chance(int b, int set, int part, int most, boolean mean) {
        if (!isBill(b) || !isSet(set) || Integer.bitCount(set) > most || part < 0 || part > 1
                || !allMay(set, b)) {
            return NONE;
        }
        long yawn = house.yawn == null ? 0 : house.yawn;
        BigInteger upper = BigInteger.ZERO;
        for (int awake = 0; awake < 1 << members(); awake++) {
            if ((awake | set) != set) {
                continue;
            }
            BigInteger weight = BigInteger.valueOf(100 - yawn).pow(Integer.bitCount(awake))
                    .multiply(BigInteger.valueOf(yawn).pow(Integer.bitCount(set & ~awake)));
            State s = with(awake, b);
            int value = mean ? s.volumeOnDay(b) : s.passes(b) ? 1 : 0;
            upper = upper.add(weight.multiply(BigInteger.valueOf(value)));
        }
        return part(upper, BigInteger.valueOf(100).pow(Integer.bitCount(set)), part);
    }

    int odds(int b, int set, int part) {
        return chance(b, set, part, 4, false);
    }

    int mean(int b, int set, int part) {
        return chance(b, set, part, 3, true);
    }

    int ripe(int b, int set, int what) {
        if (!isKept(b) || !isSet(set) || (now.jars.get(b).breaths & set) != 0
                || what < 0 || what > 1) {
            return NONE;
        }
        int best = NONE;
        int most = NONE;
        State s = now.copy();
        for (int n = 0; s.jars.get(b).fate == 0; n++) {
            State t = s.copy();
            t.breatheAll(set, b);
            if (t.volumeOnDay(b) > most) {
                most = t.volumeOnDay(b);
                best = n;
            }
            s.day(true);
        }
        return what == 0 ? best : most;
    }

    int queue(int b) {
        lying.clear();
        if (!isKept(b)) {
            return NONE;
        }
        List<Integer> free = new ArrayList<>();
        for (int m = 0; m < members(); m++) {
            if ((now.jars.get(b).breaths & 1 << m) == 0) {
                free.add(m);
            }
        }
        int most = NONE;
        for (List<Integer> order : orders(free)) {
            State s = now.copy();
            for (int m : order) {
                if (s.jars.get(b).fate == 0) {
                    s.breathe(m, b);
                    s.day(true);
                }
            }
            int volume = s.onItsDay(b).volume;
            if (volume > most) {
                most = volume;
                lying = new ArrayList<>(order);
            }
        }
        return most;
    }

    int spoil(int b) {
        for (int times = 0; times <= 20 && isKept(b); times++) {
            State s = now.copy();
            s.jars.get(b).shaken += times;
            if (!s.passes(b)) {
                return times;
            }
        }
        return NONE;
    }

    int sabotage(int n) {
        lying.clear();
        if (n < 1 || n > 3) {
            return NONE;
        }
        int all = 1;
        for (int i = 0; i < n; i++) {
            all *= bills() + 1;
        }
        int best = NONE;
        int bestTimes = 0;
        for (int code = 0; code < all; code++) {
            List<Integer> choice = new ArrayList<>();
            for (int i = 0, left = code; i < n; i++, left /= bills() + 1) {
                choice.add(0, left % (bills() + 1) - 1);
            }
            State s = now.copy();
            int times = 0;
            boolean fine = true;
            for (int b : choice) {
                if (b >= 0) {
                    Jar j = s.jars.get(b);
                    fine &= j.fate == 0 && j.breaths != 0 && j.shaken < 99;
                    j.shaken++;
                    times++;
                }
                s.day(true);
            }
            int count = 0;
            for (int b = 0; b < bills(); b++) {
                count += isKept(b) && s.onItsDay(b).fate == 1 ? 1 : 0;
            }
            if (fine && (best == NONE || count < best || count == best && times < bestTimes)) {
                best = count;
                bestTimes = times;
                lying = choice;
            }
        }
        return best;
    }

    int wasted() {
        int sum = 0;
        for (int b = 0; b < bills(); b++) {
            sum += isKept(b) && !now.passes(b) ? now.jars.get(b).volume : 0;
        }
        return sum;
    }

    int richest() {
        int best = NONE;
        for (int b = 0; b < bills(); b++) {
            if (isKept(b) && (best == NONE
                    || now.jars.get(b).volume > now.jars.get(best).volume)) {
                best = b;
            }
        }
        return best;
    }

    int matches() {
        int count = 0;
        for (int a = 0; a < bills(); a++) {
            for (int b = 0; b < bills(); b++) {
                if (canJoin(a, b) && !now.passes(a) && !now.passes(b)) {
                    State s = now.copy();
                    s.join(a, b);
                    count += s.passes(a) ? 1 : 0;
                }
            }
        }
        return count;
    }

    int brittle() {
        int bits = 0;
        for (int b = 0; b < bills(); b++) {
            bits |= now.passes(b) && spoil(b) == 1 ? 1 << b : 0;
        }
        return bits;
    }

    /** How much of a set's breaths is left in a jar of its own on shelf 0, laid on a day. */
    int leftOf(int set, int from, int days) {
        Model m = new Model();
        m.house = new House();
        m.house.members.addAll(house.members);
        m.house.fade = house.fade;
        m.house.bills.add(new Bill());
        State s = m.new State();
        s.jars.add(new Jar());
        s.day = from;
        s.breatheAll(set, 0);
        for (int i = 0; i < days; i++) {
            s.day(false);
        }
        return s.jars.get(0).volume;
    }

    int longest(int n) {
        int best = NONE;
        int most = NONE;
        for (int m = 0; m < members() && n >= 0 && n <= 60; m++) {
            if (leftOf(1 << m, now.day, n) > most) {
                most = leftOf(1 << m, now.day, n);
                best = m;
            }
        }
        return best;
    }

    int lies(int i) {
        return i >= 0 && i < lying.size() ? lying.get(i) : -2;
    }

    // ---- the strange jar

    int sniffed(int age, int volume, boolean is) {
        if (age < 0 || age > 20 || volume < 0 || volume > 999 || sniffs.size() == 30) {
            return NONE;
        }
        Sniff s = new Sniff();
        s.age = age;
        s.volume = volume;
        s.is = is;
        s.told = time;
        sniffs.add(s);
        return sniffs.size() - 1;
    }

    boolean untell(int i) {
        if (i < 0 || i >= sniffs.size() || sniffs.get(i).untold != null) {
            return false;
        }
        sniffs.get(i).untold = time;
        return true;
    }

    int later(int by) {
        if (by < 0 || by > 1000 || time + by > 100000) {
            return NONE;
        }
        return time += by;
    }

    List<Integer> fitting(int k) {
        List<Integer> sets = new ArrayList<>();
        for (int set = 0; set < 1 << members(); set++) {
            boolean fine = true;
            for (Sniff s : sniffs) {
                if (s.told <= k && (s.untold == null || s.untold > k)) {
                    fine &= leftOf(set, 0, s.age) >= s.volume == s.is;
                }
            }
            if (fine) {
                sets.add(set);
            }
        }
        return sets;
    }

    int fits(int k) {
        return fitting(k).size();
    }

    int sure(int m, int k) {
        List<Integer> sets = fitting(k);
        if (!isMember(m) || sets.isEmpty()) {
            return NONE;
        }
        int with = 0;
        for (int set : sets) {
            with += set >> m & 1;
        }
        return with == 0 ? 0 : with == sets.size() ? 1 : -2;
    }

    int ask(int what, int k) {
        List<Integer> sets = fitting(k);
        if (sets.isEmpty() || members() == 0 || what < 0 || what > 1) {
            return NONE;
        }
        int best = NONE;
        int fewest = 1000;
        for (int m = 0; m < members(); m++) {
            int with = 0;
            for (int set : sets) {
                with += set >> m & 1;
            }
            int left = Math.max(with, sets.size() - with);
            if (left < fewest) {
                fewest = left;
                best = m;
            }
        }
        return what == 0 ? best : fewest;
    }

    int image(int box) {
        if (box < 0 || box > 2) {
            return NONE;
        }
        boxes[box] = now.copy();
        return now.day;
    }

    int back(int box) {
        if (box < 0 || box > 2 || boxes[box] == null) {
            return NONE;
        }
        now = boxes[box].copy();
        undo.clear();
        redo.clear();
        return now.day;
    }

    int about(int what) {
        int force = 0;
        int flat = 0;
        for (int b = 0; b < bills(); b++) {
            force |= now.jars.get(b).fate == 1 ? 1 << b : 0;
            flat |= now.jars.get(b).fate == 2 ? 1 << b : 0;
        }
        return switch (what) {
            case 0 -> members();
            case 1 -> bills();
            case 2 -> now.day;
            case 3 -> now.seed;
            case 4 -> house.yawn == null ? 0 : house.yawn;
            case 5 -> force;
            case 6 -> flat;
            case 7 -> undo.size();
            case 8 -> redo.size();
            case 9 -> sniffs.size();
            case 10 -> time;
            case 11 -> tape.length();
            case 12 -> house.units;
            case 13 -> lying.size();
            default -> NONE;
        };
    }
}
