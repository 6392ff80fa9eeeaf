import java.util.Arrays;

/**
 * Ayes kept in jars: each vote is a breath that fades until its bill is opened.
 * The document's promises 1 to 45 are the public methods, in its order.
 */
public final class AyeJars {
    public static final int NONE = -1;

    private static final int MOST_BYTES = 1600;
    private static final int MOST_MEMBERS = 6;
    private static final int MOST_BILLS = 5;
    private static final int MOST_VOLUME = 999;
    private static final int MOST_SHAKEN = 99;
    private static final int LAST_SHELF = 9;
    private static final int LAST_DAY = 999;
    private static final int MOST_AHEAD = 60;
    private static final int BOXES = 3;
    private static final int MOST_LATER = 1000;
    private static final int LAST_TIME = 100000;

    private static final int KEPT = 0;
    private static final int FORCE = 1;
    private static final int FLAT = 2;

    private final Tokens tape;
    private final House house;
    private final House draft;
    private final Reader reader;
    private final Jars jars;
    private final Jars[] boxes;
    private final boolean[] boxFull;
    private final Acts acts;
    private final Trial trial;
    private final Ahead ahead;
    private final Chances chances;
    private final Choices choices;
    private final Nose nose;
    private int time;

    public AyeJars() {
        tape = new Tokens();
        house = new House();
        draft = new House();
        reader = new Reader(tape, draft);
        jars = new Jars();
        boxes = new Jars[BOXES];
        boxFull = new boolean[BOXES];
        for (int i = 0; i < BOXES; i++) {
            boxes[i] = new Jars();
        }
        acts = new Acts();
        trial = new Trial(house);
        ahead = new Ahead(house, jars, trial);
        chances = new Chances(house, jars, trial, ahead);
        choices = new Choices(house, jars, trial, ahead);
        nose = new Nose(house, trial);
    }

    public int feed(int a, int b, int c, int d, int e) {
        if (!tape.hasRoom(20)) {
            return NONE;
        }
        tape.append(a);
        tape.append(b);
        tape.append(c);
        tape.append(d);
        tape.append(e);
        return tape.length;
    }

    public int end(int n) {
        if (n < 0 || n > tape.length) {
            return NONE;
        }
        tape.length = n;
        return n;
    }

    public int house() {
        if (!reader.readHouse()) {
            return NONE;
        }
        house.copyFrom(draft);
        tape.length = 0;
        jars.layOut(house);
        acts.begin(jars);
        nose.forget();
        choices.clear();
        for (int i = 0; i < BOXES; i++) {
            boxFull[i] = false;
        }
        return house.members;
    }

    public int fault(int what) {
        switch (what) {
            case 0:
                return reader.fault;
            case 1:
                return reader.faultPlace;
            default:
                return NONE;
        }
    }

    public int member(int member, int what) {
        if (!house.hasMember(member)) {
            return NONE;
        }
        switch (what) {
            case 0:
                return house.breathsOf(1 << member);
            case 1:
                return house.lossOf(1 << member);
            case 2:
                return 1 - (jars.voted >> member & 1);
            case 3:
                return ahead.billsOpenTo(member);
            case 4:
                return ahead.billsHolding(member);
            default:
                return NONE;
        }
    }

    public int bill(int bill, int what) {
        if (!house.hasBill(bill)) {
            return NONE;
        }
        if (what >= 0 && what < Jars.COLUMNS) {
            return jars.get(bill, what);
        }
        switch (what) {
            case 6:
                return house.needsOf(bill);
            case 7:
                return house.opensOf(bill);
            case 8:
                return house.lossOf(jars.get(bill, Jars.BREATHS));
            case 9:
                return ahead.fadingNow(bill);
            case 10:
                return ahead.wouldPass(bill) ? 1 : 0;
            default:
                return NONE;
        }
    }

    public int vote(int member, int bill) {
        if (!ahead.mayVote(member, bill)) {
            return NONE;
        }
        jars.seed = (jars.seed * 137 + 71) % 1000;
        jars.voted |= 1 << member;
        if (jars.seed % 100 >= house.yawn) {
            trial.take(jars, bill);
            trial.breathe(1 << member);
            trial.putBack(jars, bill);
        }
        acts.keep(jars);
        return jars.get(bill, Jars.VOLUME);
    }

    public int shake(int bill) {
        int before = jars.get(bill, Jars.SHAKEN);
        if (!ahead.isKept(bill) || jars.isEmpty(bill) || before >= MOST_SHAKEN) {
            return NONE;
        }
        jars.put(bill, Jars.SHAKEN, before + 1);
        acts.keep(jars);
        return before;
    }

    public int shelve(int bill, int shelf) {
        int before = jars.get(bill, Jars.SHELF);
        if (!ahead.isKept(bill) || shelf < 0 || shelf > LAST_SHELF || shelf == before) {
            return NONE;
        }
        jars.put(bill, Jars.SHELF, shelf);
        acts.keep(jars);
        return before;
    }

    public int join(int bill, int other) {
        if (!ahead.mayJoin(bill, other)) {
            return NONE;
        }
        trial.take(jars, bill);
        trial.pourIn(jars, other);
        trial.putBack(jars, bill);
        jars.empty(other);
        acts.keep(jars);
        return jars.get(bill, Jars.VOLUME);
    }

    public int day() {
        if (jars.day >= LAST_DAY) {
            return NONE;
        }
        int today = jars.day + 1;
        int inForce = 0;
        for (int b = 0; b < house.bills; b++) {
            if (!ahead.isKept(b)) {
                continue;
            }
            trial.take(jars, b);
            trial.rest(1);
            trial.putBack(jars, b);
            if (house.opensOf(b) == today) {
                boolean enough = trial.volume >= house.needsOf(b);
                jars.put(b, Jars.FATE, enough ? FORCE : FLAT);
                inForce |= enough ? 1 << b : 0;
            }
        }
        jars.day = today;
        jars.voted = 0;
        acts.keep(jars);
        return inForce;
    }

    public boolean undo() {
        return acts.goBack(jars);
    }

    public boolean redo() {
        return acts.goOn(jars);
    }

    public int will(int bill, int n) {
        return ahead.volumeBehind(bill, n);
    }

    public int dull(int bill) {
        return ahead.daysTillDull(bill);
    }

    public int pass() {
        return ahead.passing();
    }

    public int muster(int bill, int what) {
        int set = what == 0 || what == 1 ? ahead.fewestSaviours(bill) : NONE;
        return set == NONE || what == 1 ? set : Integer.bitCount(set);
    }

    public int latest(int member, int bill) {
        return ahead.latestVote(member, bill);
    }

    public int plan() {
        return choices.choosePlan();
    }

    public int power(int member, int bill, int part) {
        return chances.weighPower(member, bill) ? chances.part(part) : NONE;
    }

    public int best(int bill) {
        return ahead.bestShelf(bill);
    }

    public int joint(int bill, int other) {
        return ahead.mayJoin(bill, other) ? ahead.jointVolume(bill, other) : NONE;
    }

    public int law(int n) {
        return n < -99 || n > 99 ? NONE : ahead.passingWithNeed(n);
    }

    public int odds(int bill, int set, int part) {
        return chances.weighOdds(bill, set) ? chances.part(part) : NONE;
    }

    public int mean(int bill, int set, int part) {
        return chances.weighMean(bill, set) ? chances.part(part) : NONE;
    }

    public int ripe(int bill, int set, int what) {
        if (what != 0 && what != 1) {
            return NONE;
        }
        int days = ahead.ripestDays(bill, set);
        return days == NONE || what == 0 ? days : ahead.volumeByBreathing(bill, set, days);
    }

    public int queue(int bill) {
        return choices.chooseQueue(bill);
    }

    public int spoil(int bill) {
        return ahead.shakesToSpoil(bill);
    }

    public int sabotage(int n) {
        return choices.chooseSabotage(n);
    }

    public int wasted() {
        return ahead.volumeWasted();
    }

    public int richest() {
        return ahead.richestKept();
    }

    public int matches() {
        return ahead.countMatches();
    }

    public int brittle() {
        return ahead.brittleBills();
    }

    public int longest(int n) {
        return ahead.longestLasting(n);
    }

    public int lies(int i) {
        return choices.lyingAt(i);
    }

    public int sniffed(int age, int volume, boolean is) {
        return nose.tell(age, volume, is, time);
    }

    public boolean untell(int sniffed) {
        return nose.takeBack(sniffed, time);
    }

    public int later(int by) {
        if (by < 0 || by > MOST_LATER || time + by > LAST_TIME) {
            return NONE;
        }
        time += by;
        return time;
    }

    public int fits(int k) {
        return Long.bitCount(nose.fitting(k));
    }

    public int sure(int member, int k) {
        return nose.sureness(member, k);
    }

    public int ask(int what, int k) {
        return nose.nextToAsk(what, k);
    }

    public int image(int box) {
        if (!isBox(box)) {
            return NONE;
        }
        boxes[box].copyFrom(jars);
        boxFull[box] = true;
        return jars.day;
    }

    public int back(int box) {
        if (!isBox(box) || !boxFull[box]) {
            return NONE;
        }
        jars.copyFrom(boxes[box]);
        acts.begin(jars);
        return jars.day;
    }

    public int about(int what) {
        switch (what) {
            case 0:
                return house.members;
            case 1:
                return house.bills;
            case 2:
                return jars.day;
            case 3:
                return jars.seed;
            case 4:
                return house.yawn;
            case 5:
                return ahead.billsOfFate(FORCE);
            case 6:
                return ahead.billsOfFate(FLAT);
            case 7:
                return acts.undoable();
            case 8:
                return acts.redoable();
            case 9:
                return nose.told;
            case 10:
                return time;
            case 11:
                return tape.length;
            case 12:
                return house.fade.units;
            case 13:
                return choices.lyingCount;
            default:
                return NONE;
        }
    }

    private boolean isBox(int box) {
        return box >= 0 && box < BOXES;
    }

    /** How a jar fades: the told formula, each operand ahead of its operator. */
    private static final class Formula {
        static final int MOST_UNITS = 30;
        /** 30 operands, 29 signs between them, and at most 7 times not ahead of each. */
        private static final int MOST_CODES = 269;
        private static final int VARIABLES = 6;

        private final int[] codes = new int[MOST_CODES];
        private final int[] numbers = new int[MOST_CODES];
        private final int[] stack = new int[MOST_UNITS];
        private final int[] known = new int[VARIABLES];
        private int size;
        int units;
        boolean told;

        void clear() {
            size = 0;
            units = 0;
            told = false;
        }

        void copyFrom(Formula other) {
            System.arraycopy(other.codes, 0, codes, 0, MOST_CODES);
            System.arraycopy(other.numbers, 0, numbers, 0, MOST_CODES);
            size = other.size;
            units = other.units;
            told = other.told;
        }

        /** Codes are the tokens themselves; the number counts for a Tokens.NUMBER alone. */
        boolean append(int code, int number) {
            if (size < 0 || size >= MOST_CODES) {
                return false;
            }
            codes[size] = code;
            numbers[size] = number;
            size++;
            return true;
        }

        int value(int volume, int age, int loss, int shelf, int shaken, int day) {
            known[0] = volume;
            known[1] = age;
            known[2] = loss;
            known[3] = shelf;
            known[4] = shaken;
            known[5] = day;
            int top = 0;
            for (int i = 0; i < size && i < MOST_CODES; i++) {
                int code = codes[i];
                int variable = code - Tokens.VOLUME;
                boolean isVariable = variable >= 0 && variable < VARIABLES;
                if (isVariable || code == Tokens.NUMBER) {
                    if (top >= MOST_UNITS) {
                        return 0;
                    }
                    stack[top] = isVariable ? known[variable] : numbers[i];
                    top++;
                } else if (code == Tokens.NOT) {
                    if (top < 1) {
                        return 0;
                    }
                    stack[top - 1] = stack[top - 1] == 0 ? 1 : 0;
                } else {
                    if (top < 2) {
                        return 0;
                    }
                    stack[top - 2] = combine(code, stack[top - 2], stack[top - 1]);
                    top--;
                }
            }
            return stack[0];
        }

        private static int combine(int code, int a, int b) {
            switch (code) {
                case '+':
                    return a + b;
                case '-':
                    return a - b;
                case '*':
                    return a * b;
                case '/':
                    return b == 0 ? 0 : a / b;
                case '%':
                    return b == 0 ? 0 : a % b;
                case '<':
                    return a < b ? 1 : 0;
                case '>':
                    return a > b ? 1 : 0;
                case '=':
                    return a == b ? 1 : 0;
                case Tokens.AND:
                    return a != 0 && b != 0 ? 1 : 0;
                case Tokens.OR:
                    return a != 0 || b != 0 ? 1 : 0;
                default:
                    return 0;
            }
        }
    }

    /** What the text told. */
    private static final class House {
        final int[] breath = new int[MOST_MEMBERS];
        final int[] keeps = new int[MOST_MEMBERS];
        final int[] needs = new int[MOST_BILLS];
        final int[] opens = new int[MOST_BILLS];
        final int[] shelf = new int[MOST_BILLS];
        final Formula fade = new Formula();
        int members;
        int bills;
        int yawn;
        int draw;

        void clear() {
            fade.clear();
            members = 0;
            bills = 0;
            yawn = 0;
            draw = 0;
        }

        void copyFrom(House other) {
            System.arraycopy(other.breath, 0, breath, 0, MOST_MEMBERS);
            System.arraycopy(other.keeps, 0, keeps, 0, MOST_MEMBERS);
            System.arraycopy(other.needs, 0, needs, 0, MOST_BILLS);
            System.arraycopy(other.opens, 0, opens, 0, MOST_BILLS);
            System.arraycopy(other.shelf, 0, shelf, 0, MOST_BILLS);
            fade.copyFrom(other.fade);
            members = other.members;
            bills = other.bills;
            yawn = other.yawn;
            draw = other.draw;
        }

        boolean hasMember(int member) {
            return member >= 0 && member < members && member < MOST_MEMBERS;
        }

        boolean hasBill(int bill) {
            return bill >= 0 && bill < bills && bill < MOST_BILLS;
        }

        boolean hasSet(int set) {
            return set >= 0 && set < 1 << members;
        }

        int breathsOf(int set) {
            return sumOf(breath, set);
        }

        int lossOf(int set) {
            return sumOf(keeps, set);
        }

        int needsOf(int bill) {
            return hasBill(bill) ? needs[bill] : 0;
        }

        int opensOf(int bill) {
            return hasBill(bill) ? opens[bill] : 0;
        }

        int shelfOf(int bill) {
            return hasBill(bill) ? shelf[bill] : 0;
        }

        private static int sumOf(int[] row, int set) {
            int sum = 0;
            for (int m = 0; m < row.length; m++) {
                if ((set >> m & 1) != 0) {
                    sum += row[m];
                }
            }
            return sum;
        }
    }

    /** The tape, and the token of it that is looked at. */
    private static final class Tokens {
        static final int END = 0;
        static final int BAD = 1;
        static final int NAME = 2;
        static final int NUMBER = 3;
        /** Signs are tokens by their own byte; words that stand for themselves come behind those. */
        private static final int FIRST_WORD = 128;
        static final int MEMBER = FIRST_WORD;
        static final int BREATH = FIRST_WORD + 1;
        static final int KEEPS = FIRST_WORD + 2;
        static final int BILL = FIRST_WORD + 3;
        static final int NEEDS = FIRST_WORD + 4;
        static final int OPENS = FIRST_WORD + 5;
        static final int FADE = FIRST_WORD + 6;
        static final int YAWN = FIRST_WORD + 7;
        static final int DRAW = FIRST_WORD + 8;
        static final int OR = FIRST_WORD + 9;
        static final int AND = FIRST_WORD + 10;
        static final int NOT = FIRST_WORD + 11;
        /** From here on the six that a formula may name, as Formula.value takes them. */
        static final int VOLUME = FIRST_WORD + 12;
        static final int SHELF = FIRST_WORD + 15;
        static final int DAY = FIRST_WORD + 17;

        private static final int MOST_LETTERS = 8;
        /** More than there are letters, so that no two words have one code. */
        private static final int LETTER_CODES = 32;
        private static final int MOST_DIGITS = 4;
        /** The words that stand for themselves, in the order of their tokens, a blank behind each. */
        private static final String WORDS = "member breath keeps bill needs opens fade yawn draw or and not volume age loss shelf shaken day ";

        private final byte[] bytes = new byte[MOST_BYTES];
        int length;
        private int at;
        int token;
        int place;
        int number;
        /** The letters of a word as one number, by which names are told apart. */
        long name;

        boolean hasRoom(int more) {
            return length + more <= MOST_BYTES;
        }

        void append(int four) {
            for (int shift = 24; shift >= 0 && length < MOST_BYTES; shift -= 8) {
                bytes[length] = (byte) (four >> shift);
                length++;
            }
        }

        void start() {
            at = 0;
            advance();
        }

        void advance() {
            while (at < length && (byteAt(at) == 32 || byteAt(at) == 10)) {
                at++;
            }
            place = at;
            int first = byteAt(at);
            if (at >= length) {
                token = END;
            } else if (isLetter(first)) {
                takeWord();
            } else if (isDigit(first)) {
                takeNumber();
            } else {
                token = isSign(first) ? first : BAD;
                at++;
            }
        }

        private int byteAt(int i) {
            return i >= 0 && i < length && i < MOST_BYTES ? bytes[i] : 0;
        }

        private void takeWord() {
            name = 0;
            while (at < length && isLetter(byteAt(at))) {
                name = name * LETTER_CODES + (byteAt(at) - 'a' + 1);
                at++;
            }
            token = at - place > MOST_LETTERS ? BAD : tokenOf(name);
        }

        private static int tokenOf(long name) {
            int word = FIRST_WORD;
            long code = 0;
            for (int i = 0; i < WORDS.length(); i++) {
                if (WORDS.charAt(i) != ' ') {
                    code = code * LETTER_CODES + (WORDS.charAt(i) - 'a' + 1);
                } else if (code == name) {
                    return word;
                } else {
                    word++;
                    code = 0;
                }
            }
            return NAME;
        }

        private void takeNumber() {
            number = 0;
            while (at < length && isDigit(byteAt(at))) {
                number = number * 10 + (byteAt(at) - '0');
                at++;
            }
            boolean tooLong = at - place > MOST_DIGITS;
            token = tooLong || isLetter(byteAt(at)) ? BAD : NUMBER;
        }

        private static boolean isLetter(int b) {
            return b >= 'a' && b <= 'z';
        }

        private static boolean isDigit(int b) {
            return b >= '0' && b <= '9';
        }

        private static boolean isSign(int b) {
            switch (b) {
                case ';':
                case '(':
                case ')':
                case '<':
                case '>':
                case '=':
                case '+':
                case '-':
                case '*':
                case '/':
                case '%':
                    return true;
                default:
                    return false;
            }
        }
    }

    /** Reads the tape into a house; each of its methods answers false at the first fault. */
    private static final class Reader {
        private static final int NO_TOKEN = 1;
        private static final int MISPLACED = 2;
        private static final int NAME_AGAIN = 3;
        private static final int BAD_NUMBER = 4;
        private static final int MOST_WITHIN = 6;

        private final Tokens tokens;
        private final House house;
        private final long[] memberNames = new long[MOST_MEMBERS];
        private final long[] billNames = new long[MOST_BILLS];
        private boolean yawnTold;
        private boolean drawTold;
        private int lastNumber;
        int fault;
        int faultPlace = NONE;

        Reader(Tokens tokens, House house) {
            this.tokens = tokens;
            this.house = house;
        }

        boolean readHouse() {
            house.clear();
            yawnTold = false;
            drawTold = false;
            fault = 0;
            faultPlace = NONE;
            tokens.start();
            boolean fine = true;
            for (int line = 0; line < MOST_BYTES && fine && tokens.token != Tokens.END; line++) {
                switch (tokens.token) {
                    case Tokens.MEMBER:
                        fine = readMember();
                        break;
                    case Tokens.BILL:
                        fine = readBill();
                        break;
                    case Tokens.FADE:
                        fine = readFade();
                        break;
                    case Tokens.YAWN:
                        fine = readYawn();
                        break;
                    case Tokens.DRAW:
                        fine = readDraw();
                        break;
                    default:
                        fine = refuse(MISPLACED);
                        break;
                }
                fine = fine && readToken(';');
            }
            return fine;
        }

        private boolean refuse(int why) {
            fault = tokens.token == Tokens.BAD ? NO_TOKEN : why;
            faultPlace = tokens.place;
            return false;
        }

        private boolean readMember() {
            int m = house.members;
            if (m < 0 || m >= MOST_MEMBERS) {
                return refuse(MISPLACED);
            }
            tokens.advance();
            if (!readName(memberNames, m) || !readPart(Tokens.BREATH, 1, 20)) {
                return false;
            }
            house.breath[m] = lastNumber;
            lastNumber = 0;
            if (tokens.token == Tokens.KEEPS && !readPart(Tokens.KEEPS, 0, 9)) {
                return false;
            }
            house.keeps[m] = lastNumber;
            house.members++;
            return true;
        }

        private boolean readBill() {
            int b = house.bills;
            if (b < 0 || b >= MOST_BILLS) {
                return refuse(MISPLACED);
            }
            tokens.advance();
            if (!readName(billNames, b) || !readPart(Tokens.NEEDS, 1, 99)) {
                return false;
            }
            house.needs[b] = lastNumber;
            if (!readPart(Tokens.OPENS, 1, 60)) {
                return false;
            }
            house.opens[b] = lastNumber;
            lastNumber = 0;
            if (tokens.token == Tokens.SHELF && !readPart(Tokens.SHELF, 0, LAST_SHELF)) {
                return false;
            }
            house.shelf[b] = lastNumber;
            house.bills++;
            return true;
        }

        private boolean readFade() {
            if (house.fade.told) {
                return refuse(MISPLACED);
            }
            house.fade.told = true;
            tokens.advance();
            return readEither(0);
        }

        private boolean readYawn() {
            if (yawnTold) {
                return refuse(MISPLACED);
            }
            yawnTold = true;
            if (!readPart(Tokens.YAWN, 0, 100)) {
                return false;
            }
            house.yawn = lastNumber;
            return true;
        }

        private boolean readDraw() {
            if (drawTold) {
                return refuse(MISPLACED);
            }
            drawTold = true;
            if (!readPart(Tokens.DRAW, 0, 999)) {
                return false;
            }
            house.draw = lastNumber;
            return true;
        }

        private boolean readToken(int token) {
            if (tokens.token != token) {
                return refuse(MISPLACED);
            }
            tokens.advance();
            return true;
        }

        private boolean readName(long[] names, int count) {
            if (tokens.token != Tokens.NAME || count < 0 || count >= names.length) {
                return refuse(MISPLACED);
            }
            for (int i = 0; i < count; i++) {
                if (names[i] == tokens.name) {
                    return refuse(NAME_AGAIN);
                }
            }
            names[count] = tokens.name;
            tokens.advance();
            return true;
        }

        /** A word and its number, which is then lastNumber. */
        private boolean readPart(int word, int least, int most) {
            if (tokens.token != word) {
                return refuse(MISPLACED);
            }
            tokens.advance();
            if (tokens.token != Tokens.NUMBER) {
                return refuse(MISPLACED);
            }
            if (tokens.number < least || tokens.number > most) {
                return refuse(BAD_NUMBER);
            }
            lastNumber = tokens.number;
            tokens.advance();
            return true;
        }

        private boolean write(int code) {
            return house.fade.append(code, tokens.number) || refuse(MISPLACED);
        }

        private boolean readEither(int within) {
            boolean fine = readBoth(within);
            for (int i = 0; i < MOST_BYTES && fine && tokens.token == Tokens.OR; i++) {
                tokens.advance();
                fine = readBoth(within) && write(Tokens.OR);
            }
            return fine;
        }

        private boolean readBoth(int within) {
            boolean fine = readOne(within);
            for (int i = 0; i < MOST_BYTES && fine && tokens.token == Tokens.AND; i++) {
                tokens.advance();
                fine = readOne(within) && write(Tokens.AND);
            }
            return fine;
        }

        private boolean readOne(int within) {
            if (tokens.token == Tokens.NOT) {
                if (within > MOST_WITHIN) {
                    return refuse(MISPLACED);
                }
                tokens.advance();
                return readOne(within + 1) && write(Tokens.NOT);
            }
            boolean fine = readSum(within);
            int sign = tokens.token;
            if (fine && (sign == '<' || sign == '>' || sign == '=')) {
                tokens.advance();
                fine = readSum(within) && write(sign);
            }
            return fine;
        }

        private boolean readSum(int within) {
            boolean fine = readTerm(within);
            for (int i = 0; i < MOST_BYTES && fine; i++) {
                int sign = tokens.token;
                if (sign != '+' && sign != '-') {
                    break;
                }
                tokens.advance();
                fine = readTerm(within) && write(sign);
            }
            return fine;
        }

        private boolean readTerm(int within) {
            boolean fine = readUnit(within);
            for (int i = 0; i < MOST_BYTES && fine; i++) {
                int sign = tokens.token;
                if (sign != '*' && sign != '/' && sign != '%') {
                    break;
                }
                tokens.advance();
                fine = readUnit(within) && write(sign);
            }
            return fine;
        }

        private boolean readUnit(int within) {
            int token = tokens.token;
            boolean isVariable = token >= Tokens.VOLUME && token <= Tokens.DAY;
            boolean isPlain = token == Tokens.NUMBER || isVariable;
            boolean isInner = token == '(' && within <= MOST_WITHIN;
            if (!isPlain && !isInner || house.fade.units >= Formula.MOST_UNITS) {
                return refuse(MISPLACED);
            }
            house.fade.units++;
            if (isPlain && !write(token)) {
                return false;
            }
            tokens.advance();
            return isPlain || readEither(within + 1) && readToken(')');
        }
    }

    /** The jars of all bills, and all else that acts change. */
    private static final class Jars {
        /** The columns of a jar, numbered as bill() asks for them. */
        static final int VOLUME = 0;
        static final int BREATHS = 1;
        static final int AGE = 2;
        static final int SHELF = 3;
        static final int SHAKEN = 4;
        static final int FATE = 5;
        static final int COLUMNS = 6;
        private static final int CELLS = MOST_BILLS * COLUMNS;

        private final int[] cells = new int[CELLS];
        int voted;
        int day;
        int seed;

        int get(int bill, int column) {
            return hasCell(bill, column) ? cells[bill * COLUMNS + column] : 0;
        }

        void put(int bill, int column, int value) {
            if (hasCell(bill, column)) {
                cells[bill * COLUMNS + column] = value;
            }
        }

        private static boolean hasCell(int bill, int column) {
            return bill >= 0 && bill < MOST_BILLS && column >= 0 && column < COLUMNS;
        }

        boolean isEmpty(int bill) {
            return get(bill, BREATHS) == 0;
        }

        void empty(int bill) {
            put(bill, VOLUME, 0);
            put(bill, BREATHS, 0);
            put(bill, AGE, 0);
            put(bill, SHAKEN, 0);
        }

        void layOut(House house) {
            Arrays.fill(cells, 0);
            for (int b = 0; b < MOST_BILLS; b++) {
                put(b, SHELF, house.shelfOf(b));
            }
            voted = 0;
            day = 0;
            seed = house.draw;
        }

        void copyFrom(Jars other) {
            System.arraycopy(other.cells, 0, cells, 0, CELLS);
            voted = other.voted;
            day = other.day;
            seed = other.seed;
        }
    }

    /** What acts left behind, in a ring, so that the oldest go without being moved. */
    private static final class Acts {
        private static final int MOST_ACTS = 40;
        private static final int SLOTS = MOST_ACTS + 1;

        private final Jars[] ring = new Jars[SLOTS];
        private int first;
        private int done;
        private int known;

        Acts() {
            for (int i = 0; i < SLOTS; i++) {
                ring[i] = new Jars();
            }
        }

        void begin(Jars jars) {
            first = 0;
            done = 0;
            known = 0;
            slot(0).copyFrom(jars);
        }

        void keep(Jars jars) {
            if (done >= MOST_ACTS) {
                first = (first + 1) % SLOTS;
            } else {
                done++;
            }
            known = done;
            slot(done).copyFrom(jars);
        }

        boolean goBack(Jars jars) {
            if (done <= 0) {
                return false;
            }
            done--;
            jars.copyFrom(slot(done));
            return true;
        }

        boolean goOn(Jars jars) {
            if (done >= known) {
                return false;
            }
            done++;
            jars.copyFrom(slot(done));
            return true;
        }

        int undoable() {
            return done;
        }

        int redoable() {
            return known - done;
        }

        private Jars slot(int i) {
            return ring[Math.floorMod(first + i, SLOTS)];
        }
    }

    /** One jar on which acts are tried, without touching the jars that are. */
    private static final class Trial {
        private final House house;
        int volume;
        private int breaths;
        private int age;
        int shelf;
        int shaken;
        int day;

        Trial(House house) {
            this.house = house;
        }

        void take(Jars jars, int bill) {
            volume = jars.get(bill, Jars.VOLUME);
            breaths = jars.get(bill, Jars.BREATHS);
            age = jars.get(bill, Jars.AGE);
            shelf = jars.get(bill, Jars.SHELF);
            shaken = jars.get(bill, Jars.SHAKEN);
            day = jars.day;
        }

        void putBack(Jars jars, int bill) {
            jars.put(bill, Jars.VOLUME, volume);
            jars.put(bill, Jars.BREATHS, breaths);
            jars.put(bill, Jars.AGE, age);
            jars.put(bill, Jars.SHELF, shelf);
            jars.put(bill, Jars.SHAKEN, shaken);
        }

        void copyFrom(Trial other) {
            volume = other.volume;
            breaths = other.breaths;
            age = other.age;
            shelf = other.shelf;
            shaken = other.shaken;
            day = other.day;
        }

        void startEmpty(int onShelf, int timesShaken, int onDay) {
            volume = 0;
            breaths = 0;
            age = 0;
            shelf = onShelf;
            shaken = timesShaken;
            day = onDay;
        }

        void breathe(int set) {
            volume = Math.min(MOST_VOLUME, volume + house.breathsOf(set));
            breaths |= set;
        }

        void pourIn(Jars jars, int other) {
            volume = Math.min(MOST_VOLUME, volume + jars.get(other, Jars.VOLUME));
            breaths |= jars.get(other, Jars.BREATHS);
            age = Math.max(age, jars.get(other, Jars.AGE));
            shaken = Math.min(MOST_SHAKEN, shaken + jars.get(other, Jars.SHAKEN));
        }

        int fading() {
            if (breaths == 0 || volume == 0) {
                return 0;
            }
            int loss = house.lossOf(breaths);
            int fade = house.fade.told
                    ? house.fade.value(volume, age, loss, shelf, shaken, day)
                    : loss;
            return Math.max(0, Math.min(volume, fade));
        }

        void rest(int days) {
            for (int i = 0; i < days; i++) {
                volume -= fading();
                age += breaths == 0 ? 0 : 1;
                day++;
            }
        }
    }

    /** Questions of what lies ahead, by what is now. */
    private static final class Ahead {
        private static final int MOST_SPOIL = 20;

        private final House house;
        private final Jars jars;
        private final Trial trial;

        Ahead(House house, Jars jars, Trial trial) {
            this.house = house;
            this.jars = jars;
            this.trial = trial;
        }

        boolean isKept(int bill) {
            return house.hasBill(bill) && jars.get(bill, Jars.FATE) == KEPT;
        }

        boolean mayVote(int member, int bill) {
            return house.hasMember(member) && (votersFor(bill) >> member & 1) != 0;
        }

        /** Members who may vote for it now, as bits. */
        int votersFor(int bill) {
            int all = (1 << house.members) - 1;
            return isKept(bill) ? all & ~jars.voted & ~jars.get(bill, Jars.BREATHS) : 0;
        }

        boolean mayJoin(int bill, int other) {
            return bill != other && isKept(bill) && isKept(other) && !jars.isEmpty(other);
        }

        int billsOpenTo(int member) {
            int bits = 0;
            for (int b = 0; b < house.bills; b++) {
                bits |= mayVote(member, b) ? 1 << b : 0;
            }
            return bits;
        }

        int billsHolding(int member) {
            int bits = 0;
            for (int b = 0; b < house.bills; b++) {
                bits |= (jars.get(b, Jars.BREATHS) >> member & 1) << b;
            }
            return bits;
        }

        int billsOfFate(int fate) {
            int bits = 0;
            for (int b = 0; b < house.bills; b++) {
                bits |= jars.get(b, Jars.FATE) == fate ? 1 << b : 0;
            }
            return bits;
        }

        int daysLeft(int bill) {
            return house.opensOf(bill) - jars.day;
        }

        int fadingNow(int bill) {
            trial.take(jars, bill);
            return isKept(bill) ? trial.fading() : 0;
        }

        /** Its volume on its day, if a set of members breathed into it behind so many days. */
        int volumeByBreathing(int bill, int set, int days) {
            trial.take(jars, bill);
            trial.rest(days);
            trial.breathe(set);
            trial.rest(daysLeft(bill) - days);
            return trial.volume;
        }

        /** Its volume on its day, if it were shaken so many times more now. */
        int volumeByShaking(int bill, int times) {
            trial.take(jars, bill);
            trial.shaken += times;
            trial.rest(daysLeft(bill));
            return trial.volume;
        }

        int jointVolume(int bill, int other) {
            trial.take(jars, bill);
            trial.pourIn(jars, other);
            trial.rest(daysLeft(bill));
            return trial.volume;
        }

        boolean wouldPass(int bill) {
            return isKept(bill) && volumeByBreathing(bill, 0, 0) >= house.needsOf(bill);
        }

        int passing() {
            int bits = 0;
            for (int b = 0; b < house.bills; b++) {
                bits |= wouldPass(b) ? 1 << b : 0;
            }
            return bits;
        }

        int volumeBehind(int bill, int days) {
            if (!isKept(bill) || days < 0 || days > MOST_AHEAD) {
                return NONE;
            }
            trial.take(jars, bill);
            trial.rest(days);
            return trial.volume;
        }

        int daysTillDull(int bill) {
            if (!isKept(bill)) {
                return NONE;
            }
            trial.take(jars, bill);
            for (int days = 0; days <= MOST_AHEAD; days++) {
                if (trial.volume < house.needsOf(bill)) {
                    return days;
                }
                trial.rest(1);
            }
            return NONE;
        }

        /** The fewest whose votes now would make it pass, as bits, or NONE. */
        int fewestSaviours(int bill) {
            int fewest = NONE;
            int voters = votersFor(bill);
            for (int set = 0; set < 1 << house.members && isKept(bill); set++) {
                boolean fewer = fewest == NONE
                        || Integer.bitCount(set) < Integer.bitCount(fewest);
                if (fewer && (set & ~voters) == 0
                        && volumeByBreathing(bill, set, 0) >= house.needsOf(bill)) {
                    fewest = set;
                }
            }
            return fewest;
        }

        int latestVote(int member, int bill) {
            boolean inIt = (jars.get(bill, Jars.BREATHS) >> member & 1) != 0;
            if (!house.hasMember(member) || !isKept(bill) || inIt) {
                return NONE;
            }
            int soonest = jars.voted >> member & 1;
            for (int days = daysLeft(bill) - 1; days >= soonest; days--) {
                if (volumeByBreathing(bill, 1 << member, days) >= house.needsOf(bill)) {
                    return days;
                }
            }
            return NONE;
        }

        int bestShelf(int bill) {
            int best = NONE;
            int most = NONE;
            for (int shelf = 0; shelf <= LAST_SHELF && isKept(bill); shelf++) {
                trial.take(jars, bill);
                trial.shelf = shelf;
                trial.rest(daysLeft(bill));
                if (trial.volume > most) {
                    most = trial.volume;
                    best = shelf;
                }
            }
            return best;
        }

        int passingWithNeed(int more) {
            int count = 0;
            for (int b = 0; b < house.bills; b++) {
                if (isKept(b) && volumeByBreathing(b, 0, 0) >= house.needsOf(b) + more) {
                    count++;
                }
            }
            return count;
        }

        int ripestDays(int bill, int set) {
            int best = NONE;
            int most = NONE;
            boolean fine = isKept(bill) && house.hasSet(set)
                    && (set & jars.get(bill, Jars.BREATHS)) == 0;
            for (int days = 0; days < daysLeft(bill) && fine; days++) {
                int volume = volumeByBreathing(bill, set, days);
                if (volume > most) {
                    most = volume;
                    best = days;
                }
            }
            return best;
        }

        int shakesToSpoil(int bill) {
            for (int times = 0; times <= MOST_SPOIL && isKept(bill); times++) {
                if (volumeByShaking(bill, times) < house.needsOf(bill)) {
                    return times;
                }
            }
            return NONE;
        }

        int volumeWasted() {
            int sum = 0;
            for (int b = 0; b < house.bills; b++) {
                sum += isKept(b) && !wouldPass(b) ? jars.get(b, Jars.VOLUME) : 0;
            }
            return sum;
        }

        int richestKept() {
            int richest = NONE;
            int most = NONE;
            for (int b = 0; b < house.bills; b++) {
                int volume = jars.get(b, Jars.VOLUME);
                if (isKept(b) && volume > most) {
                    most = volume;
                    richest = b;
                }
            }
            return richest;
        }

        int countMatches() {
            int count = 0;
            for (int a = 0; a < house.bills; a++) {
                for (int b = 0; b < house.bills; b++) {
                    if (mayJoin(a, b) && !wouldPass(a) && !wouldPass(b)
                            && jointVolume(a, b) >= house.needsOf(a)) {
                        count++;
                    }
                }
            }
            return count;
        }

        int brittleBills() {
            int bits = 0;
            for (int b = 0; b < house.bills; b++) {
                if (wouldPass(b) && volumeByShaking(b, 1) < house.needsOf(b)) {
                    bits |= 1 << b;
                }
            }
            return bits;
        }

        int longestLasting(int days) {
            int longest = NONE;
            int most = NONE;
            boolean fine = days >= 0 && days <= MOST_AHEAD;
            for (int m = 0; m < house.members && fine; m++) {
                trial.startEmpty(0, 0, jars.day);
                trial.breathe(1 << m);
                trial.rest(days);
                if (trial.volume > most) {
                    most = trial.volume;
                    longest = m;
                }
            }
            return longest;
        }
    }

    /** Fractions: each weighing leaves one behind, if it can be weighed. */
    private static final class Chances {
        private static final int MOST_FOR_ODDS = 4;
        private static final int MOST_FOR_MEAN = 3;

        private final House house;
        private final Jars jars;
        private final Trial trial;
        private final Ahead ahead;
        private long upper;
        private long lower;

        Chances(House house, Jars jars, Trial trial, Ahead ahead) {
            this.house = house;
            this.jars = jars;
            this.trial = trial;
            this.ahead = ahead;
        }

        int part(int part) {
            long common = commonDivisor(upper, lower);
            if (part < 0 || part > 1 || common == 0) {
                return NONE;
            }
            return (int) ((part == 0 ? upper : lower) / common);
        }

        boolean weighPower(int member, int bill) {
            if (!house.hasMember(member) || !ahead.isKept(bill)) {
                return false;
            }
            upper = 0;
            lower = factorial(house.members);
            for (int set = 0; set < 1 << house.members; set++) {
                int with = set | 1 << member;
                if (set != with && !passesFromEmpty(bill, set) && passesFromEmpty(bill, with)) {
                    int before = Integer.bitCount(set);
                    upper += factorial(before) * factorial(house.members - 1 - before);
                }
            }
            return true;
        }

        private boolean passesFromEmpty(int bill, int set) {
            trial.startEmpty(jars.get(bill, Jars.SHELF), jars.get(bill, Jars.SHAKEN), jars.day);
            trial.breathe(set);
            trial.rest(ahead.daysLeft(bill));
            return trial.volume >= house.needsOf(bill);
        }

        boolean weighOdds(int bill, int set) {
            if (!mayAllVote(bill, set, MOST_FOR_ODDS)) {
                return false;
            }
            upper = 0;
            lower = raise(100, Integer.bitCount(set));
            for (int awake = 0; awake <= set && ahead.isKept(bill); awake++) {
                if ((awake & ~set) == 0
                        && ahead.volumeByBreathing(bill, awake, 0) >= house.needsOf(bill)) {
                    upper += weightOf(awake, set);
                }
            }
            return true;
        }

        boolean weighMean(int bill, int set) {
            if (!mayAllVote(bill, set, MOST_FOR_MEAN)) {
                return false;
            }
            upper = 0;
            lower = raise(100, Integer.bitCount(set));
            for (int awake = 0; awake <= set; awake++) {
                if ((awake & ~set) == 0) {
                    upper += weightOf(awake, set) * ahead.volumeByBreathing(bill, awake, 0);
                }
            }
            return true;
        }

        private boolean mayAllVote(int bill, int set, int most) {
            return house.hasBill(bill) && house.hasSet(set) && Integer.bitCount(set) <= most
                    && (set & ~ahead.votersFor(bill)) == 0;
        }

        /** In how many of 100 to the power of their count just these of the set do not yawn. */
        private long weightOf(int awake, int set) {
            int count = Integer.bitCount(awake);
            return raise(100 - house.yawn, count)
                    * raise(house.yawn, Integer.bitCount(set) - count);
        }

        private static long raise(long base, int exponent) {
            long product = 1;
            for (int i = 0; i < exponent; i++) {
                product *= base;
            }
            return product;
        }

        private static long factorial(int n) {
            long product = 1;
            for (int i = 2; i <= n; i++) {
                product *= i;
            }
            return product;
        }

        private static long commonDivisor(long a, long b) {
            for (int i = 0; i < 100 && b != 0; i++) {
                long rest = a % b;
                a = b;
                b = rest;
            }
            return a;
        }
    }

    /** Searches for the best of many choices; what they find lies there. */
    private static final class Choices {
        private static final int NONE_LIES = -2;
        private static final int MOST_SABOTAGE = 3;
        /** None, or one of the bills. */
        private static final int WAYS_A_DAY = MOST_BILLS + 1;

        private final House house;
        private final Jars jars;
        private final Trial trial;
        private final Ahead ahead;
        private final int[] lying = new int[MOST_MEMBERS];
        int lyingCount;
        /** The choice that is tried: what would lie there, and by it a set of bits for each bill. */
        private final int[] tried = new int[MOST_MEMBERS];
        private final int[] sets = new int[MOST_BILLS];
        /** For each bill: bit s tells if it comes into force by the set s. */
        private final long[] forces = new long[MOST_BILLS];
        /** For each bill: members whose votes for it are worth a try, or sets of days to shake it on. */
        private final long[] allowed = new long[MOST_BILLS];
        private int best;
        private int fewest;
        /** How many bills some plan makes pass, each by itself. */
        private int most;
        /** A jar in a queue behind so many breaths. */
        private final Trial[] stages = new Trial[MOST_MEMBERS + 1];
        /** The volume on its day by the volume behind the whole queue, or NONE: not known yet. */
        private final int[] outcomes = new int[MOST_VOLUME + 1];

        Choices(House house, Jars jars, Trial trial, Ahead ahead) {
            this.house = house;
            this.jars = jars;
            this.trial = trial;
            this.ahead = ahead;
            for (int i = 0; i <= MOST_MEMBERS; i++) {
                stages[i] = new Trial(house);
            }
        }

        void clear() {
            lyingCount = 0;
        }

        int lyingAt(int i) {
            return i >= 0 && i < lyingCount && i < MOST_MEMBERS ? lying[i] : NONE_LIES;
        }

        private void layTried(int count) {
            System.arraycopy(tried, 0, lying, 0, MOST_MEMBERS);
            lyingCount = count;
        }

        int choosePlan() {
            Arrays.fill(sets, 0);
            most = 0;
            for (int b = 0; b < MOST_BILLS; b++) {
                forces[b] = forcingSets(b);
                boolean needsVotes = forces[b] != 0 && (forces[b] & 1) == 0;
                allowed[b] = needsVotes ? ahead.votersFor(b) : 0;
                most += forces[b] != 0 ? 1 : 0;
            }
            best = NONE;
            extendPlan(0, 0);
            return best;
        }

        /** Bit s tells if the bill passes by votes of the set s now. */
        private long forcingSets(int bill) {
            long bits = 0;
            int voters = ahead.votersFor(bill);
            for (int set = 0; set < 1 << MOST_MEMBERS && ahead.isKept(bill); set++) {
                if ((set & ~voters) == 0
                        && ahead.volumeByBreathing(bill, set, 0) >= house.needsOf(bill)) {
                    bits |= 1L << set;
                }
            }
            return bits;
        }

        /** Goes through the plans from the first on, so that of like ones the first stays. */
        private void extendPlan(int member, int votes) {
            if (best == most && votes >= fewest) {
                return;
            }
            if (member >= house.members || member >= MOST_MEMBERS) {
                weighPlan(votes);
                return;
            }
            tried[member] = NONE;
            extendPlan(member + 1, votes);
            for (int b = 0; b < MOST_BILLS; b++) {
                if ((allowed[b] >> member & 1) != 0) {
                    tried[member] = b;
                    sets[b] |= 1 << member;
                    extendPlan(member + 1, votes + 1);
                    sets[b] &= ~(1 << member);
                }
            }
        }

        private void weighPlan(int votes) {
            int count = countForced();
            if (count > best || count == best && votes < fewest) {
                best = count;
                fewest = votes;
                layTried(house.members);
            }
        }

        private int countForced() {
            int count = 0;
            for (int b = 0; b < MOST_BILLS; b++) {
                count += (int) (forces[b] >> sets[b] & 1);
            }
            return count;
        }

        int chooseQueue(int bill) {
            clear();
            best = NONE;
            if (ahead.isKept(bill)) {
                Arrays.fill(outcomes, NONE);
                stages[0].take(jars, bill);
                int all = (1 << house.members) - 1;
                extendQueue(house.opensOf(bill), 0, all & ~jars.get(bill, Jars.BREATHS));
            }
            return best;
        }

        private void extendQueue(int opens, int length, int left) {
            if (left == 0 || length >= MOST_MEMBERS) {
                weighQueue(opens, length);
                return;
            }
            Trial next = stages[length + 1];
            for (int m = 0; m < MOST_MEMBERS; m++) {
                if ((left >> m & 1) != 0) {
                    next.copyFrom(stages[length]);
                    if (next.day < opens) {
                        next.breathe(1 << m);
                        next.rest(1);
                    }
                    tried[length] = m;
                    extendQueue(opens, length + 1, left & ~(1 << m));
                }
            }
        }

        /** All whole queues leave jars that differ by their volume alone. */
        private void weighQueue(int opens, int length) {
            int volume = length >= 0 && length <= MOST_MEMBERS ? stages[length].volume : NONE;
            if (volume < 0 || volume > MOST_VOLUME) {
                return;
            }
            if (outcomes[volume] == NONE) {
                trial.copyFrom(stages[length]);
                trial.rest(opens - trial.day);
                outcomes[volume] = trial.volume;
            }
            if (outcomes[volume] > best) {
                best = outcomes[volume];
                layTried(length);
            }
        }

        int chooseSabotage(int days) {
            clear();
            if (days < 1 || days > MOST_SABOTAGE) {
                return NONE;
            }
            int ways = 1;
            for (int d = 0; d < days; d++) {
                ways *= WAYS_A_DAY;
            }
            for (int b = 0; b < MOST_BILLS; b++) {
                fillShaken(b, days);
            }
            best = MOST_BILLS + 1;
            for (int way = 0; way < ways; way++) {
                weighSabotage(way, days);
            }
            return best;
        }

        /** Which sets of days it may be shaken on, and by which it comes into force. */
        private void fillShaken(int bill, int days) {
            allowed[bill] = 1;
            forces[bill] = 0;
            if (!ahead.isKept(bill)) {
                return;
            }
            for (int set = 0; set < 1 << days; set++) {
                boolean fine = !jars.isEmpty(bill);
                trial.take(jars, bill);
                for (int d = 0; d < days; d++) {
                    boolean isOpen = trial.day >= house.opensOf(bill);
                    if ((set >> d & 1) != 0) {
                        fine = fine && !isOpen && trial.shaken < MOST_SHAKEN;
                        trial.shaken++;
                    }
                    trial.rest(isOpen ? 0 : 1);
                }
                trial.rest(house.opensOf(bill) - trial.day);
                allowed[bill] |= fine ? 1L << set : 0;
                forces[bill] |= trial.volume >= house.needsOf(bill) ? 1L << set : 0;
            }
        }

        /** The first day's choice is the way's highest digit, so that ways count up in order. */
        private void weighSabotage(int way, int days) {
            Arrays.fill(sets, 0);
            int times = 0;
            int left = way;
            for (int d = days - 1; d >= 0; d--) {
                int bill = left % WAYS_A_DAY - 1;
                left /= WAYS_A_DAY;
                tried[d] = bill;
                if (bill >= 0 && bill < MOST_BILLS) {
                    sets[bill] |= 1 << d;
                    times++;
                }
            }
            for (int b = 0; b < MOST_BILLS; b++) {
                if ((allowed[b] >> sets[b] & 1) == 0) {
                    return;
                }
            }
            int count = countForced();
            if (count < best || count == best && times < fewest) {
                best = count;
                fewest = times;
                layTried(days);
            }
        }
    }

    /** What was sniffed of a strange jar, and whose breaths may be in it by that. */
    private static final class Nose {
        private static final int MOST_SNIFFED = 30;
        private static final int OLDEST = 20;
        private static final int IN_SOME = -2;
        private static final int SETS = 1 << MOST_MEMBERS;

        private final House house;
        private final Trial trial;
        private final int[] ages = new int[MOST_SNIFFED];
        private final int[] volumes = new int[MOST_SNIFFED];
        private final boolean[] holds = new boolean[MOST_SNIFFED];
        private final int[] toldAt = new int[MOST_SNIFFED];
        private final int[] untoldAt = new int[MOST_SNIFFED];
        /** By the set whose breaths are in it and its age; it depends on the house alone. */
        private final int[][] strange = new int[SETS][OLDEST + 1];
        private boolean strangeKnown;
        int told;

        Nose(House house, Trial trial) {
            this.house = house;
            this.trial = trial;
        }

        void forget() {
            told = 0;
            strangeKnown = false;
        }

        int tell(int age, int volume, boolean is, int time) {
            if (age < 0 || age > OLDEST || volume < 0 || volume > MOST_VOLUME
                    || told < 0 || told >= MOST_SNIFFED) {
                return NONE;
            }
            ages[told] = age;
            volumes[told] = volume;
            holds[told] = is;
            toldAt[told] = time;
            untoldAt[told] = NONE;
            told++;
            return told - 1;
        }

        boolean takeBack(int sniffed, int time) {
            if (sniffed < 0 || sniffed >= told || sniffed >= MOST_SNIFFED
                    || untoldAt[sniffed] != NONE) {
                return false;
            }
            untoldAt[sniffed] = time;
            return true;
        }

        /** Bit s tells if the breaths of just the set s may be in it. */
        long fitting(int k) {
            if (!strangeKnown) {
                fadeStrangeJars();
            }
            long bits = 0;
            for (int set = 0; set < SETS && set < 1 << house.members; set++) {
                if (agrees(set, k)) {
                    bits |= 1L << set;
                }
            }
            return bits;
        }

        private void fadeStrangeJars() {
            for (int set = 0; set < SETS && set < 1 << house.members; set++) {
                trial.startEmpty(0, 0, 0);
                trial.breathe(set);
                for (int age = 0; age <= OLDEST; age++) {
                    strange[set][age] = trial.volume;
                    trial.rest(1);
                }
            }
            strangeKnown = true;
        }

        private boolean agrees(int set, int k) {
            for (int i = 0; i < told && i < MOST_SNIFFED && set >= 0 && set < SETS; i++) {
                boolean untold = untoldAt[i] != NONE && untoldAt[i] <= k;
                int age = ages[i];
                if (toldAt[i] <= k && !untold && age >= 0 && age <= OLDEST
                        && strange[set][age] >= volumes[i] != holds[i]) {
                    return false;
                }
            }
            return true;
        }

        private static int countWith(long fitting, int member) {
            int count = 0;
            for (int set = 0; set < SETS; set++) {
                count += (int) (fitting >> set & set >> member & 1);
            }
            return count;
        }

        int sureness(int member, int k) {
            long fitting = fitting(k);
            if (fitting == 0 || !house.hasMember(member)) {
                return NONE;
            }
            int with = countWith(fitting, member);
            if (with == 0) {
                return 0;
            }
            return with == Long.bitCount(fitting) ? 1 : IN_SOME;
        }

        int nextToAsk(int what, int k) {
            long fitting = fitting(k);
            int next = NONE;
            int fewest = NONE;
            for (int m = 0; m < house.members && fitting != 0; m++) {
                int with = countWith(fitting, m);
                int left = Math.max(with, Long.bitCount(fitting) - with);
                if (next == NONE || left < fewest) {
                    next = m;
                    fewest = left;
                }
            }
            switch (what) {
                case 0:
                    return next;
                case 1:
                    return fewest;
                default:
                    return NONE;
            }
        }
    }
}
