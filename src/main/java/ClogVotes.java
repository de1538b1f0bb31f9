import java.util.NoSuchElementException;

/**
 * A valley whose hands vote by the noise of their clogs: the left way for a question, the right way
 * against it. Texts come by a tape of bytes; every answer is a number.
 */
public final class ClogVotes {
    public static final int NONE = -1;

    private static final int STREETS = 5;
    private static final int HANDS = 10;
    private static final int QUESTIONS = 5;
    private static final int WAYS = 2;
    private static final int LEFT = 0;
    private static final int RIGHT = 1;
    private static final int NO_WAY = -2;

    private static final int MOST_IRONS = 20;
    private static final int MOST_FIRST_COIN = 99;
    private static final int MOST_COIN = 999;
    private static final int MOST_SAND = 20;
    private static final int MOST_ECHO = 99;
    private static final int MOST_PRICE = 9;
    private static final int MOST_WAGE = 9;
    private static final int MOST_GRANT = 9;
    private static final int MOST_DAYS = 60;
    private static final int LAST_DAY = 400;

    private static final int DRY = 0;
    private static final int WET = 1;
    private static final int SNOW = 2;

    private static final int OPEN = 0;
    private static final int CARRIED = 1;
    private static final int LOST = 2;

    private static final int TAPE_BYTES = 940;
    private static final int FED_BYTES = 20;
    private static final int VALLEY_BYTES = 900;
    private static final int BOOK_BYTES = 400;
    private static final int SENTENCE_BYTES = 200;
    private static final int BOOK_LINES = 40;
    private static final int ONES = 20;
    private static final int ONES_WITHIN = 8;
    private static final int MOST_NUMBER = 999;

    private static final int CANT_COME = 1;
    private static final int NUMBER_OFF = 2;
    private static final int NAME_OFF = 3;
    private static final int TOO_MANY = 4;

    // What a LINE of a BOOK does; the number is also what is added to why it is WRONG.
    private static final int ACT_BUY = 0;
    private static final int ACT_STRIKE = 10;
    private static final int ACT_WORK = 20;
    private static final int ACT_SWAY = 30;
    private static final int ACT_PUT = 40;
    private static final int ACT_LAY = 50;
    private static final int ACT_WEATHER = 60;
    private static final int ACT_DAY = 70;

    private static final int ACTS_KEPT = 8;
    private static final int PLACES = 2;
    private static final int ORDERS = 120;
    private static final int ODDS_SEEDS = 30;
    private static final int ODDS_DAYS = 20;
    private static final int OTHER_LIVES = -1000;

    private static final Word[] WORDS = Word.values();

    private final Reader reader = new Reader();
    private final Tape tape = reader.tape;
    private final Valley land = new Valley();
    private final State state = new State();
    private final Sentence saying = new Sentence();
    private final Last last = new Last();
    private final Purchase purchase = new Purchase();
    private final State before = new State();
    private final State trial = new State();
    private final State[] past = new State[ACTS_KEPT];
    private final Image[] images = new Image[PLACES];
    private final int[] tally = new int[HANDS];
    private final int[] order = new int[QUESTIONS];
    private int acts;
    private int seedNow;

    public ClogVotes() {
        for (int i = 0; i < past.length; i++) {
            past[i] = new State();
        }
        for (int k = 0; k < images.length; k++) {
            images[k] = new Image();
        }
    }

    // ---- the tape and the texts on it

    public int feed(int a, int b, int c, int d, int e) {
        if (tape.size + FED_BYTES > TAPE_BYTES) {
            return NONE;
        }
        tape.append(a);
        tape.append(b);
        tape.append(c);
        tape.append(d);
        tape.append(e);
        return tape.size;
    }

    public boolean end(int n) {
        if (n < 0 || n > tape.size) {
            return false;
        }
        tape.size = n;
        return true;
    }

    public int valley() {
        int lines = reader.readValley();
        tape.size = 0;
        last.faultKind = tape.faultKind;
        if (lines < 0) {
            return -1 - tape.faultPlace;
        }
        land.copyFrom(reader.land);
        state.copyFrom(reader.state);
        saying.clear();
        acts = 0;
        return lines;
    }

    public int fault() {
        return last.faultKind;
    }

    // ---- what is so

    public int hand(int h, int what) throws NoSuchElementException {
        if (!isHand(h)) {
            throw new NoSuchElementException("no such hand");
        }
        switch (what) {
            case 0:
                return land.home[h];
            case 1:
                return state.irons[h];
            case 2:
                return state.coin[h];
            case 3:
                return land.isChild(h) ? 1 : 0;
            case 4:
                return state.isSilent(h) ? 1 : 0;
            case 5:
                return state.handNoise(land, h, LEFT, 0);
            case 6:
                return state.handNoise(land, h, RIGHT, 0);
            default:
                throw new NoSuchElementException("nothing such of a hand");
        }
    }

    public int wants(int h, int q) {
        if (!isHand(h) || !isQuestion(q)) {
            return NONE;
        }
        return state.wayWanted(h, q);
    }

    public int question(int q, int what) throws NoSuchElementException {
        if (!isQuestion(q)) {
            throw new NoSuchElementException("no such question");
        }
        switch (what) {
            case 0:
                return state.result[q];
            case 1:
                return state.putDay[q];
            case 2:
                return state.margin[q];
            case 3:
                return state.left[q];
            case 4:
                return state.right[q];
            default:
                throw new NoSuchElementException("nothing such of a question");
        }
    }

    public int grants(int q, int street) {
        if (!isQuestion(q) || street < 0 || street >= land.streets) {
            return NONE;
        }
        return land.grantTo(q, street);
    }

    public int way(int w, int what) {
        if (!isWay(w)) {
            return NONE;
        }
        switch (what) {
            case 0:
                return state.sand[w];
            case 1:
                return land.echo[w];
            default:
                return NONE;
        }
    }

    public int now(int what) {
        switch (what) {
            case 0:
                return state.day;
            case 1:
                return state.weather;
            case 2:
                return state.silent;
            case 3:
                return sumOfHands(state.irons);
            case 4:
                return sumOfHands(state.coin);
            case 5:
                return state.questionsThatAre(land, CARRIED);
            case 6:
                return state.questionsThatAre(land, LOST);
            case 7:
                return state.wasPutToday(land) ? 1 : 0;
            default:
                return NONE;
        }
    }

    // ---- acts

    public int buy(int h, int n) {
        if (!isHand(h) || n < 1 || n > MOST_IRONS) {
            return NONE;
        }
        before.copyFrom(state);
        return keepIfDone(state.buyIrons(land, h, n));
    }

    public int strike(int h) {
        if (!isHand(h)) {
            return NONE;
        }
        before.copyFrom(state);
        return keepIfDone(state.goOnStrike(h));
    }

    public int work(int h) {
        if (!isHand(h)) {
            return NONE;
        }
        before.copyFrom(state);
        return keepIfDone(state.goToWork(h));
    }

    public int sway(int h, int q, int w) {
        if (!isHand(h) || !isQuestion(q) || !isWay(w)) {
            return NONE;
        }
        before.copyFrom(state);
        return keepIfDone(state.swayHand(h, q, w));
    }

    public int put(int q) {
        if (!isQuestion(q)) {
            return NONE;
        }
        before.copyFrom(state);
        return keepIfDone(state.putQuestion(land, q));
    }

    public int lay(int w, int n) {
        if (!isWay(w) || n < 0 || n > MOST_SAND) {
            return NONE;
        }
        before.copyFrom(state);
        return keepIfDone(state.laySand(w, n));
    }

    public int weather(int k) {
        if (k < DRY || k > SNOW) {
            return NONE;
        }
        before.copyFrom(state);
        return keepIfDone(state.turnWeather(k));
    }

    public int days(int n) {
        if (n < 1 || n > MOST_DAYS) {
            return NONE;
        }
        before.copyFrom(state);
        int gone = 0;
        for (int i = 0; i < n; i++) {
            if (state.passDay(land)) {
                gone++;
            }
        }
        if (gone > 0) {
            keepBefore();
        }
        return gone;
    }

    public int undo() {
        if (acts < 1 || acts > past.length) {
            return NONE;
        }
        acts--;
        state.copyFrom(past[acts]);
        return acts;
    }

    // ---- what would be

    public int noise(int q, int w) {
        if (!isQuestion(q) || !isWay(w)) {
            return NONE;
        }
        int goers = w == LEFT ? state.left[q] : state.right[q];
        return state.wayNoise(land, goers, w);
    }

    public int would(int q) {
        if (!isQuestion(q)) {
            return NONE;
        }
        return state.wouldCarry(land, q) ? 1 : 0;
    }

    public int win(int q) {
        if (!isQuestion(q)) {
            return NONE;
        }
        int best = NONE;
        for (int set = 0; set <= land.allHands(); set++) {
            if ((set & state.left[q]) == 0 && isFewer(set, best) && carriesWith(q, set)) {
                best = set;
            }
        }
        if (best == NONE) {
            return NONE;
        }
        last.handsWon = best;
        return Integer.bitCount(best);
    }

    public int won() {
        return last.handsWon;
    }

    public int winStreets(int q) {
        if (!isQuestion(q)) {
            return NONE;
        }
        int best = NONE;
        for (int set = 0; set < (1 << land.streets); set++) {
            if (isFewer(set, best) && carriesWith(q, land.handsOfStreets(set))) {
                best = set;
            }
        }
        if (best == NONE) {
            return NONE;
        }
        last.streetsWon = best;
        return Integer.bitCount(best);
    }

    public int wonStreets() {
        return last.streetsWon;
    }

    public int sanded(int q) {
        if (!isQuestion(q)) {
            return NONE;
        }
        trial.copyFrom(state);
        for (int sand = 0; sand <= MOST_SAND; sand++) {
            trial.sand[RIGHT] = sand;
            if (trial.wouldCarry(land, q)) {
                return sand;
            }
        }
        return NONE;
    }

    public int bought(int q) {
        if (!isQuestion(q)) {
            return NONE;
        }
        int irons = purchase.leastIrons(land, state, q);
        if (irons == NONE) {
            return NONE;
        }
        purchase.share(land, state, irons, last.ironsBought);
        last.buyers = land.hands;
        return irons * land.price;
    }

    public int buys(int h) {
        if (h < 0 || h >= last.buyers) {
            return NONE;
        }
        return last.ironsBought[h];
    }

    public int agenda() {
        int open = listOpenQuestions();
        int most = NONE;
        for (int round = 0; round < ORDERS; round++) {
            int carried = carriedInOrder(open);
            if (carried > most) {
                most = carried;
                System.arraycopy(order, 0, last.agendaOrder, 0, open);
            }
            if (!toNextOrder(open)) {
                break;
            }
        }
        last.agendaLength = open;
        return most;
    }

    public int agendaAt(int k) {
        if (k < 0 || k >= last.agendaLength) {
            return NONE;
        }
        return last.agendaOrder[k];
    }

    public int power(int h) {
        if (!isHand(h)) {
            return NONE;
        }
        int all = land.allHands();
        int self = 1 << h;
        int swung = 0;
        for (int set = 0; set <= all; set++) {
            if ((set & self) == 0
                    && state.carries(land, set | self, all & ~(set | self))
                    && !state.carries(land, set, all & ~set)) {
                swung++;
            }
        }
        return swung;
    }

    // ---- what was heard

    public int heard() {
        boolean asTold = tape.size == 2;
        int loud = tape.at(0);
        int off = tape.at(1);
        tape.size = 0;
        if (!asTold) {
            return NONE;
        }
        for (int h = 0; h < land.hands; h++) {
            tally[h] = 0;
        }
        int sets = 0;
        int sure = land.allHands();
        for (int set = 0; set <= land.allHands(); set++) {
            if (Math.abs(state.wayNoise(land, set, LEFT) - loud) <= off) {
                sets++;
                sure &= set;
                tallyHands(set);
            }
        }
        if (sets > 0) {
            last.sureHands = sure;
            last.handToAsk = evenestHand(sets);
        }
        return sets;
    }

    public int surely() {
        return last.sureHands;
    }

    public int ask() {
        return last.handToAsk;
    }

    // ---- the crier

    public int crier(int q) {
        if (!isQuestion(q)) {
            return NONE;
        }
        last.cry.setLength(0);
        last.cryName(land.questionNames[q]);
        if (state.result[q] == OPEN) {
            last.cry.append(" is open");
        } else {
            last.cry.append(state.result[q] == CARRIED ? " carried by " : " lost by ");
            last.cry.append(state.margin[q]);
        }
        return last.cry.length();
    }

    public int byteAt(int i) {
        if (i < 0 || i >= last.cry.length()) {
            return NONE;
        }
        return last.cry.charAt(i);
    }

    // ---- days by draws

    public int drawn(int n, int seed) {
        if (n < 1 || n > MOST_DAYS || land.hands == 0) {
            return NONE;
        }
        before.copyFrom(state);
        int gone = drawDays(state, n, seed);
        if (gone > 0) {
            keepBefore();
        }
        return gone;
    }

    public int odds(int q, int n, int seed) {
        if (!isQuestion(q) || n < 1 || n > ODDS_SEEDS) {
            return NONE;
        }
        int carried = 0;
        for (int i = 0; i < n; i++) {
            trial.copyFrom(state);
            drawDays(trial, ODDS_DAYS, seed + i);
            if (trial.result[q] == CARRIED) {
                carried++;
            }
        }
        return carried;
    }

    // ---- a book, a sentence

    public int book(int lives) {
        if (lives != 0 && lives != 1) {
            return OTHER_LIVES;
        }
        boolean whole = reader.readBook(land);
        tape.size = 0;
        last.faultKind = tape.faultKind;
        if (!whole) {
            return -2 - tape.faultPlace;
        }
        before.copyFrom(state);
        trial.copyFrom(state);
        State judged = lives == 1 ? state : trial;
        int why = 0;
        int line = 0;
        while (line < reader.pages.lines && why == 0) {
            why = reader.pages.liveLine(land, judged, line);
            if (why == 0) {
                line++;
            }
        }
        last.keepBook(why, line, judged.day, judged.questionsThatAre(land, CARRIED));
        if (lives == 1 && line > 0) {
            keepBefore();
        }
        return why == 0 ? NONE : line;
    }

    public int told(int what) {
        if (!last.bookTold) {
            return NONE;
        }
        switch (what) {
            case 0:
                return last.bookWhy;
            case 1:
                return last.bookLines;
            case 2:
                return last.bookDay;
            case 3:
                return last.bookCarried;
            default:
                return NONE;
        }
    }

    public int sentence() {
        boolean whole = reader.readSentence(land);
        tape.size = 0;
        last.faultKind = tape.faultKind;
        if (!whole) {
            return -1 - tape.faultPlace;
        }
        saying.copyFrom(reader.saying);
        return saying.ones;
    }

    public int said(int k) {
        if (saying.ones == 0 || k < NONE) {
            return NONE;
        }
        int holds = saying.handsOfWhich(land, state);
        if (k == NONE) {
            return Integer.bitCount(holds);
        }
        int seen = 0;
        for (int h = 0; h < land.hands; h++) {
            if ((holds >> h & 1) != 0) {
                if (seen == k) {
                    return h;
                }
                seen++;
            }
        }
        return NONE;
    }

    // ---- images, counts

    public boolean image(int k) {
        if (k < 0 || k >= images.length) {
            return false;
        }
        Image place = images[k];
        place.land.copyFrom(land);
        place.state.copyFrom(state);
        place.saying.copyFrom(saying);
        place.kept = true;
        return true;
    }

    public boolean restore(int k) {
        if (k < 0 || k >= images.length || !images[k].kept) {
            return false;
        }
        Image place = images[k];
        land.copyFrom(place.land);
        state.copyFrom(place.state);
        saying.copyFrom(place.saying);
        acts = 0;
        return true;
    }

    public int count(int what) {
        switch (what) {
            case 0:
                return land.streets;
            case 1:
                return land.hands;
            case 2:
                return land.questions;
            case 3:
                return land.price;
            case 4:
                return land.wage;
            case 5:
                return tape.size;
            default:
                return NONE;
        }
    }

    // ---- helpers of the calls above

    private boolean isHand(int h) {
        return h >= 0 && h < land.hands;
    }

    private boolean isQuestion(int q) {
        return q >= 0 && q < land.questions;
    }

    private static boolean isWay(int w) {
        return w == LEFT || w == RIGHT;
    }

    private int sumOfHands(int[] row) {
        int sum = 0;
        for (int h = 0; h < land.hands && h < row.length; h++) {
            sum += row[h];
        }
        return sum;
    }

    private int keepIfDone(int why) {
        if (why == 0) {
            keepBefore();
        }
        return why;
    }

    private void keepBefore() {
        if (acts == past.length) {
            State oldest = past[0];
            for (int i = 1; i < past.length; i++) {
                past[i - 1] = past[i];
            }
            past[past.length - 1] = oldest;
            acts--;
        }
        past[acts].copyFrom(before);
        acts++;
    }

    private static boolean isFewer(int set, int best) {
        return best == NONE || Integer.bitCount(set) < Integer.bitCount(best);
    }

    private boolean carriesWith(int q, int swayed) {
        return state.carries(land, state.left[q] | swayed, state.right[q] & ~swayed);
    }

    private int listOpenQuestions() {
        int open = 0;
        for (int q = 0; q < land.questions; q++) {
            if (state.result[q] == OPEN) {
                order[open] = q;
                open++;
            }
        }
        return open;
    }

    private int carriedInOrder(int open) {
        trial.copyFrom(state);
        trial.weather = DRY;
        int carried = 0;
        for (int i = 0; i < open; i++) {
            if (trial.wouldCarry(land, order[i])) {
                trial.grantIrons(land, order[i]);
                carried++;
            }
        }
        return carried;
    }

    /** Makes the order the next one, as a dictionary has them; false behind the last. */
    private boolean toNextOrder(int open) {
        int i = open - 2;
        while (i >= 0 && order[i] > order[i + 1]) {
            i--;
        }
        if (i < 0) {
            return false;
        }
        int j = open - 1;
        while (j > i && order[j] < order[i]) {
            j--;
        }
        swapInOrder(i, j);
        for (int low = i + 1, high = open - 1; low < high; low++, high--) {
            swapInOrder(low, high);
        }
        return true;
    }

    private void swapInOrder(int i, int j) {
        int q = order[i];
        order[i] = order[j];
        order[j] = q;
    }

    private void tallyHands(int set) {
        for (int h = 0; h < land.hands; h++) {
            tally[h] += set >> h & 1;
        }
    }

    private int evenestHand(int sets) {
        int best = NONE;
        int least = 0;
        for (int h = 0; h < land.hands; h++) {
            int uneven = Math.abs(2 * tally[h] - sets);
            if (best == NONE || uneven < least) {
                best = h;
                least = uneven;
            }
        }
        return best;
    }

    private int draw(int n) {
        seedNow = seedNow * 1103515245 + 12345;
        return n > 0 ? (seedNow >>> 8) % n : 0;
    }

    private int drawDays(State drawnState, int n, int seed) {
        seedNow = seed;
        int gone = 0;
        while (gone < n && drawnState.day < LAST_DAY) {
            drawnState.weather = draw(3);
            for (int h = 0; h < land.hands; h++) {
                drawHand(drawnState, h);
            }
            if (land.questions > 0) {
                drawnState.putQuestion(land, draw(land.questions));
            }
            drawnState.passDay(land);
            gone++;
        }
        return gone;
    }

    private void drawHand(State drawnState, int h) {
        int drawnNumber = draw(10);
        if (drawnNumber == 0) {
            drawnState.silent ^= 1 << h;
        } else if (drawnNumber == 1) {
            drawnState.buyIrons(land, h, 1);
        }
    }

    /** What the words of the texts are; NAME stands for all that are not told by the document. */
    private enum Word {
        NO_WORD(""), NAME(""),
        STREET("street"), HAND("hand"), CHILD("child"), QUESTION("question"), WANTS("wants"),
        LEFT_WAY("left"), RIGHT_WAY("right"), GRANTS("grants"), SAND("sand"), ECHO("echo"),
        PRICE("price"), WAGE("wage"),
        BUYS("buys"), STRIKES("strikes"), WORKS("works"), SWAYED("swayed"), PUT("put"), LAY("lay"),
        DRY_DAY("dry"), WET_DAY("wet"), SNOW_DAY("snow"), DAY("day"),
        OR("or"), AND("and"), NOT("not"), SILENT("silent"), OF("of"), FOR("for"),
        AGAINST("against"), IRONS("irons"), COIN("coin"), NUMBER("number");

        final long key;

        Word(String letters) {
            long made = 0;
            for (int i = 0; i < letters.length(); i++) {
                made = addLetter(made, letters.charAt(i));
            }
            key = made;
        }

        /** A word of up to eight letters as one number: five bits a letter, none of them 0. */
        static long addLetter(long key, int letter) {
            return key << 5 | letter - 'a' + 1;
        }

        static Word of(long key) {
            for (int i = 0; i < WORDS.length; i++) {
                if (WORDS[i].key == key) {
                    return WORDS[i];
                }
            }
            return NAME;
        }
    }

    /** The bytes fed; read token by token, up to the first fault. */
    private static final class Tape {
        private static final int END = 0;
        private static final int NO_TOKEN = 1;
        private static final int WORD = 2;
        private static final int NUMBER = 3;
        private static final int SIGN = 4;
        private static final int LETTERS = 8;
        private static final int DIGITS = 3;
        private static final String SIGNS = ";<=>().";

        private final int[] bytes = new int[TAPE_BYTES];
        int size;
        private int most;
        private int next;
        private int start;
        private int shape;
        private int number;
        Word word = Word.NO_WORD;
        long name;
        int sign;
        int faultKind;
        int faultPlace;

        void append(int four) {
            for (int shift = 24; shift >= 0 && size < bytes.length; shift -= 8) {
                bytes[size] = four >>> shift & 255;
                size++;
            }
        }

        int at(int i) {
            return i >= 0 && i < size && i < bytes.length ? bytes[i] : NONE;
        }

        /** Begins to read all bytes as a text that may have so many at most. */
        void open(int mostBytes) {
            most = mostBytes;
            next = 0;
            faultKind = 0;
            faultPlace = 0;
            advance();
        }

        boolean isAtEnd() {
            return shape == END;
        }

        /** Whether the text ends here and is not too long; a fault, if not. */
        boolean closes() {
            if (shape == END && size <= most) {
                return true;
            }
            return fail(CANT_COME);
        }

        /** Notes a fault at the present token; answers false, so that readers can hand it on. */
        boolean fail(int kind) {
            if (faultKind == 0) {
                faultKind = kind;
                faultPlace = start;
            }
            return false;
        }

        void advance() {
            word = Word.NO_WORD;
            name = 0;
            number = 0;
            sign = NONE;
            while (next < size && (bytes[next] == 32 || bytes[next] == 10)) {
                next++;
            }
            if (next >= size || next >= most) {
                shape = END;
                start = Math.min(size, most);
                return;
            }
            start = next;
            if (isLetter(bytes[next]) || isDigit(bytes[next])) {
                readRun();
                return;
            }
            boolean known = SIGNS.indexOf((char) bytes[next]) >= 0;
            shape = known ? SIGN : NO_TOKEN;
            sign = known ? bytes[next] : NONE;
            next++;
        }

        /** Reads small letters and digits as far as they go: a word, a number, or no token. */
        private void readRun() {
            int letters = 0;
            int digits = 0;
            while (next < size && (isLetter(bytes[next]) || isDigit(bytes[next]))) {
                int one = bytes[next];
                if (isDigit(one)) {
                    digits++;
                    number = digits <= DIGITS ? number * 10 + one - '0' : 0;
                } else {
                    letters++;
                    name = letters <= LETTERS ? Word.addLetter(name, one) : 0;
                }
                next++;
            }
            if (digits == 0 && letters <= LETTERS) {
                shape = WORD;
                word = Word.of(name);
            } else if (letters == 0 && digits <= DIGITS) {
                shape = NUMBER;
            } else {
                shape = NO_TOKEN;
            }
        }

        private static boolean isLetter(int one) {
            return one >= 'a' && one <= 'z';
        }

        private static boolean isDigit(int one) {
            return one >= '0' && one <= '9';
        }

        boolean takeSign(int wanted) {
            if (shape != SIGN || sign != wanted) {
                return fail(CANT_COME);
            }
            advance();
            return true;
        }

        /** The number of the present token, which is left behind; NONE and a fault, if it is none. */
        int takeNumber(int least, int greatest) {
            if (shape != NUMBER) {
                fail(CANT_COME);
                return NONE;
            }
            if (number < least || number > greatest) {
                fail(NUMBER_OFF);
                return NONE;
            }
            int taken = number;
            advance();
            return taken;
        }

        /** The way that the present token tells, which is not left; NONE and a fault, if none. */
        int seeWay() {
            if (word == Word.LEFT_WAY) {
                return LEFT;
            }
            if (word == Word.RIGHT_WAY) {
                return RIGHT;
            }
            fail(CANT_COME);
            return NONE;
        }

        int takeWay() {
            int w = seeWay();
            if (w != NONE) {
                advance();
            }
            return w;
        }

        /** Which of these names the present token is, which is not left; NONE and a fault, if none. */
        int seeName(long[] names, int told) {
            if (word != Word.NAME) {
                fail(CANT_COME);
                return NONE;
            }
            int found = Valley.placeOf(name, names, told);
            if (found == NONE) {
                fail(NAME_OFF);
            }
            return found;
        }

        int takeName(long[] names, int told) {
            int found = seeName(names, told);
            if (found != NONE) {
                advance();
            }
            return found;
        }
    }

    /** What the text of a valley tells and no act changes. */
    private static final class Valley {
        private static final int FIRST_PRICE = 2;
        private static final int FIRST_WAGE = 1;

        final long[] streetNames = new long[STREETS];
        final long[] handNames = new long[HANDS];
        final long[] questionNames = new long[QUESTIONS];
        final int[] home = new int[HANDS];
        final int[] granted = new int[QUESTIONS * STREETS];
        final int[] echo = new int[WAYS];
        int streets;
        int hands;
        int questions;
        int children;
        int price = FIRST_PRICE;
        int wage = FIRST_WAGE;

        void clear() {
            for (int i = 0; i < granted.length; i++) {
                granted[i] = 0;
            }
            echo[LEFT] = 0;
            echo[RIGHT] = 0;
            streets = 0;
            hands = 0;
            questions = 0;
            children = 0;
            price = FIRST_PRICE;
            wage = FIRST_WAGE;
        }

        void copyFrom(Valley other) {
            System.arraycopy(other.streetNames, 0, streetNames, 0, STREETS);
            System.arraycopy(other.handNames, 0, handNames, 0, HANDS);
            System.arraycopy(other.questionNames, 0, questionNames, 0, QUESTIONS);
            System.arraycopy(other.home, 0, home, 0, HANDS);
            System.arraycopy(other.granted, 0, granted, 0, QUESTIONS * STREETS);
            System.arraycopy(other.echo, 0, echo, 0, WAYS);
            streets = other.streets;
            hands = other.hands;
            questions = other.questions;
            children = other.children;
            price = other.price;
            wage = other.wage;
        }

        static int placeOf(long name, long[] names, int told) {
            for (int i = 0; i < told && i < names.length; i++) {
                if (names[i] == name) {
                    return i;
                }
            }
            return NONE;
        }

        boolean tells(long name) {
            return placeOf(name, streetNames, streets) != NONE
                    || placeOf(name, handNames, hands) != NONE
                    || placeOf(name, questionNames, questions) != NONE;
        }

        boolean isChild(int h) {
            return (children >> h & 1) != 0;
        }

        int grantTo(int q, int street) {
            int pair = q * STREETS + street;
            return pair >= 0 && pair < granted.length ? granted[pair] : 0;
        }

        int allHands() {
            return (1 << hands) - 1;
        }

        int handsOfStreets(int set) {
            int found = 0;
            for (int h = 0; h < hands; h++) {
                if ((set >> home[h] & 1) != 0) {
                    found |= 1 << h;
                }
            }
            return found;
        }
    }

    /** All that acts change; hands are bits in silent, left and right. */
    private static final class State {
        final int[] irons = new int[HANDS];
        final int[] coin = new int[HANDS];
        final int[] left = new int[QUESTIONS];
        final int[] right = new int[QUESTIONS];
        final int[] result = new int[QUESTIONS];
        final int[] putDay = new int[QUESTIONS];
        final int[] margin = new int[QUESTIONS];
        final int[] sand = new int[WAYS];
        int silent;
        int weather;
        int day;

        void clear() {
            for (int h = 0; h < HANDS; h++) {
                irons[h] = 0;
                coin[h] = 0;
            }
            for (int q = 0; q < QUESTIONS; q++) {
                left[q] = 0;
                right[q] = 0;
                result[q] = OPEN;
                putDay[q] = NONE;
                margin[q] = NONE;
            }
            sand[LEFT] = 0;
            sand[RIGHT] = 0;
            silent = 0;
            weather = DRY;
            day = 0;
        }

        void copyFrom(State other) {
            System.arraycopy(other.irons, 0, irons, 0, HANDS);
            System.arraycopy(other.coin, 0, coin, 0, HANDS);
            System.arraycopy(other.left, 0, left, 0, QUESTIONS);
            System.arraycopy(other.right, 0, right, 0, QUESTIONS);
            System.arraycopy(other.result, 0, result, 0, QUESTIONS);
            System.arraycopy(other.putDay, 0, putDay, 0, QUESTIONS);
            System.arraycopy(other.margin, 0, margin, 0, QUESTIONS);
            System.arraycopy(other.sand, 0, sand, 0, WAYS);
            silent = other.silent;
            weather = other.weather;
            day = other.day;
        }

        boolean isSilent(int h) {
            return (silent >> h & 1) != 0;
        }

        boolean wantsLeft(int h, int q) {
            return (left[q] >> h & 1) != 0;
        }

        boolean wantsRight(int h, int q) {
            return (right[q] >> h & 1) != 0;
        }

        int wayWanted(int h, int q) {
            if (wantsLeft(h, q)) {
                return LEFT;
            }
            return wantsRight(h, q) ? RIGHT : NO_WAY;
        }

        /** How loud a hand would be on a way with so many irons more. */
        int handNoise(Valley land, int h, int w, int more) {
            if (isSilent(h)) {
                return 0;
            }
            int loud = irons[h] + more;
            if (land.isChild(h)) {
                loud *= 2;
            }
            if (weather == WET) {
                loud /= 2;
            }
            return Math.max(0, loud - sand[w]);
        }

        int wayNoise(Valley land, int goers, int w) {
            int loud = 0;
            for (int h = 0; h < land.hands; h++) {
                if ((goers >> h & 1) != 0) {
                    loud += handNoise(land, h, w, 0);
                }
            }
            return loud > 0 ? loud + land.echo[w] : 0;
        }

        boolean carries(Valley land, int leftGoers, int rightGoers) {
            return wayNoise(land, leftGoers, LEFT) > wayNoise(land, rightGoers, RIGHT);
        }

        boolean wouldCarry(Valley land, int q) {
            return carries(land, left[q], right[q]);
        }

        int questionsThatAre(Valley land, int how) {
            int found = 0;
            for (int q = 0; q < land.questions; q++) {
                if (result[q] == how) {
                    found |= 1 << q;
                }
            }
            return found;
        }

        boolean wasPutToday(Valley land) {
            for (int q = 0; q < land.questions; q++) {
                if (result[q] != OPEN && putDay[q] == day) {
                    return true;
                }
            }
            return false;
        }

        // Each act answers 0, or why it can't be done and then changes nothing.

        int buyIrons(Valley land, int h, int n) {
            if (coin[h] < n * land.price) {
                return 1;
            }
            if (irons[h] + n > MOST_IRONS) {
                return 2;
            }
            coin[h] -= n * land.price;
            irons[h] += n;
            return 0;
        }

        int goOnStrike(int h) {
            if (isSilent(h)) {
                return 1;
            }
            silent |= 1 << h;
            return 0;
        }

        int goToWork(int h) {
            if (!isSilent(h)) {
                return 1;
            }
            silent &= ~(1 << h);
            return 0;
        }

        int swayHand(int h, int q, int w) {
            if (result[q] != OPEN) {
                return 1;
            }
            if (wayWanted(h, q) == w) {
                return 2;
            }
            turnHand(h, q, w);
            return 0;
        }

        void turnHand(int h, int q, int w) {
            int bit = 1 << h;
            left[q] = w == LEFT ? left[q] | bit : left[q] & ~bit;
            right[q] = w == RIGHT ? right[q] | bit : right[q] & ~bit;
        }

        int putQuestion(Valley land, int q) {
            if (result[q] != OPEN) {
                return 1;
            }
            if (weather == SNOW) {
                return 2;
            }
            if (wasPutToday(land)) {
                return 3;
            }
            int ahead = wayNoise(land, left[q], LEFT) - wayNoise(land, right[q], RIGHT);
            result[q] = ahead > 0 ? CARRIED : LOST;
            putDay[q] = day;
            margin[q] = Math.abs(ahead);
            if (ahead > 0) {
                grantIrons(land, q);
            }
            return 0;
        }

        void grantIrons(Valley land, int q) {
            for (int h = 0; h < land.hands; h++) {
                irons[h] = Math.min(MOST_IRONS, irons[h] + land.grantTo(q, land.home[h]));
            }
        }

        int laySand(int w, int n) {
            if (sand[w] == n) {
                return 1;
            }
            sand[w] = n;
            return 0;
        }

        int turnWeather(int k) {
            if (weather == k) {
                return 1;
            }
            weather = k;
            return 0;
        }

        /** Lets a day go by, unless none does any more. */
        boolean passDay(Valley land) {
            if (day >= LAST_DAY) {
                return false;
            }
            for (int h = 0; h < land.hands; h++) {
                if (!isSilent(h)) {
                    coin[h] = Math.min(MOST_COIN, coin[h] + land.wage);
                }
            }
            weather = DRY;
            day++;
            return true;
        }
    }

    /** What may be said of hands: its ones, and, or behind what they join. */
    private static final class Sentence {
        private static final int STEPS = 2 * ONES;

        private static final int OR = 0;
        private static final int AND = 1;
        private static final int NOT = 2;
        private static final int SILENT = 3;
        private static final int CHILD = 4;
        private static final int OF = 5;
        private static final int FOR = 6;
        private static final int AGAINST = 7;
        private static final int IRONS = 8;
        private static final int COIN = 9;
        private static final int NUMBER = 10;

        final int[] kinds = new int[STEPS];
        final int[] numbers = new int[STEPS];
        final int[] signs = new int[STEPS];
        final int[] stack = new int[STEPS];
        int steps;
        int ones;

        void clear() {
            steps = 0;
            ones = 0;
        }

        void copyFrom(Sentence other) {
            System.arraycopy(other.kinds, 0, kinds, 0, STEPS);
            System.arraycopy(other.numbers, 0, numbers, 0, STEPS);
            System.arraycopy(other.signs, 0, signs, 0, STEPS);
            steps = other.steps;
            ones = other.ones;
        }

        boolean add(int kind, int number, int sign) {
            if (steps >= STEPS) {
                return false;
            }
            kinds[steps] = kind;
            numbers[steps] = number;
            signs[steps] = sign;
            steps++;
            return true;
        }

        int handsOfWhich(Valley land, State state) {
            int top = 0;
            for (int i = 0; i < steps; i++) {
                if (kinds[i] == OR || kinds[i] == AND) {
                    if (top < 2) {
                        return 0;
                    }
                    top--;
                    int both = stack[top] & stack[top - 1];
                    int any = stack[top] | stack[top - 1];
                    stack[top - 1] = kinds[i] == OR ? any : both;
                } else if (kinds[i] == NOT) {
                    if (top < 1) {
                        return 0;
                    }
                    stack[top - 1] = land.allHands() & ~stack[top - 1];
                } else if (top < STEPS) {
                    stack[top] = handsOfStep(land, state, i);
                    top++;
                }
            }
            return top == 1 ? stack[0] : 0;
        }

        private int handsOfStep(Valley land, State state, int i) {
            int found = 0;
            for (int h = 0; h < land.hands; h++) {
                if (holds(land, state, i, h)) {
                    found |= 1 << h;
                }
            }
            return found;
        }

        private boolean holds(Valley land, State state, int i, int h) {
            switch (kinds[i]) {
                case SILENT:
                    return state.isSilent(h);
                case CHILD:
                    return land.isChild(h);
                case OF:
                    return land.home[h] == numbers[i];
                case FOR:
                    return state.wantsLeft(h, numbers[i]);
                case AGAINST:
                    return state.wantsRight(h, numbers[i]);
                case IRONS:
                    return compares(state.irons[h], signs[i], numbers[i]);
                case COIN:
                    return compares(state.coin[h], signs[i], numbers[i]);
                case NUMBER:
                    return compares(h, signs[i], numbers[i]);
                default:
                    return false;
            }
        }

        private static boolean compares(int has, int sign, int number) {
            if (sign == '<') {
                return has < number;
            }
            return sign == '>' ? has > number : has == number;
        }
    }

    /** A book: what each line does, and to whom. */
    private static final class Book {
        private final int[] what = new int[BOOK_LINES];
        private final int[] who = new int[BOOK_LINES];
        private final int[] which = new int[BOOK_LINES];
        private final int[] amount = new int[BOOK_LINES];
        int lines;

        boolean add(int act, int hand, int thing, int n) {
            if (lines >= BOOK_LINES) {
                return false;
            }
            what[lines] = act;
            who[lines] = hand;
            which[lines] = thing;
            amount[lines] = n;
            lines++;
            return true;
        }

        /** Lives a line; 0, or why it is WRONG, and then nothing is changed. */
        int liveLine(Valley land, State state, int line) {
            if (line < 0 || line >= lines) {
                return 0;
            }
            int why = tryLine(land, state, line);
            return why == 0 ? 0 : what[line] + why;
        }

        private int tryLine(Valley land, State state, int line) {
            switch (what[line]) {
                case ACT_BUY:
                    return state.buyIrons(land, who[line], amount[line]);
                case ACT_STRIKE:
                    return state.goOnStrike(who[line]);
                case ACT_WORK:
                    return state.goToWork(who[line]);
                case ACT_SWAY:
                    return state.swayHand(who[line], which[line], amount[line]);
                case ACT_PUT:
                    return state.putQuestion(land, which[line]);
                case ACT_LAY:
                    return state.laySand(which[line], amount[line]);
                case ACT_WEATHER:
                    return state.turnWeather(which[line]);
                default:
                    return passDays(land, state, amount[line]);
            }
        }

        private static int passDays(Valley land, State state, int n) {
            if (LAST_DAY - state.day < n) {
                return 1;
            }
            for (int i = 0; i < n; i++) {
                state.passDay(land);
            }
            return 0;
        }
    }

    /** The tape, and what its texts tell, read into a valley, a state, a sentence, a book of its own. */
    private static final class Reader {
        private static final int TOLD_SAND = 1;
        private static final int TOLD_ECHO = 4;
        private static final int TOLD_PRICE = 16;
        private static final int TOLD_WAGE = 32;

        final Tape tape = new Tape();
        final Valley land = new Valley();
        final State state = new State();
        final Sentence saying = new Sentence();
        final Book pages = new Book();
        private int toldOnce;

        /** How many lines the valley on the tape has; NONE, if it has a fault. */
        int readValley() {
            land.clear();
            state.clear();
            toldOnce = 0;
            tape.open(VALLEY_BYTES);
            int lines = 0;
            while (lines <= VALLEY_BYTES && !tape.isAtEnd()) {
                if (!readLine() || !tape.takeSign(';')) {
                    return NONE;
                }
                lines++;
            }
            return tape.closes() ? lines : NONE;
        }

        private boolean readLine() {
            switch (tape.word) {
                case STREET:
                    return readStreet();
                case HAND:
                    return readHand();
                case QUESTION:
                    return readQuestion();
                case WANTS:
                    return readWants();
                case GRANTS:
                    return readGrants();
                case SAND:
                    return readOfWay(state.sand, TOLD_SAND, MOST_SAND);
                case ECHO:
                    return readOfWay(land.echo, TOLD_ECHO, MOST_ECHO);
                case PRICE:
                    return readPrice();
                case WAGE:
                    return readWage();
                default:
                    return tape.fail(CANT_COME);
            }
        }

        private boolean seeNewName() {
            if (tape.word != Word.NAME) {
                return tape.fail(CANT_COME);
            }
            return !land.tells(tape.name) || tape.fail(NAME_OFF);
        }

        private boolean readStreet() {
            if (land.streets >= STREETS) {
                return tape.fail(TOO_MANY);
            }
            tape.advance();
            if (!seeNewName()) {
                return false;
            }
            land.streetNames[land.streets] = tape.name;
            land.streets++;
            tape.advance();
            return true;
        }

        private boolean readQuestion() {
            if (land.questions >= QUESTIONS) {
                return tape.fail(TOO_MANY);
            }
            tape.advance();
            if (!seeNewName()) {
                return false;
            }
            land.questionNames[land.questions] = tape.name;
            land.questions++;
            tape.advance();
            return true;
        }

        private boolean readHand() {
            int h = land.hands;
            if (h >= HANDS) {
                return tape.fail(TOO_MANY);
            }
            tape.advance();
            if (!seeNewName()) {
                return false;
            }
            land.handNames[h] = tape.name;
            tape.advance();
            int street = tape.takeName(land.streetNames, land.streets);
            int irons = street == NONE ? NONE : tape.takeNumber(0, MOST_IRONS);
            int coin = irons == NONE ? NONE : tape.takeNumber(0, MOST_FIRST_COIN);
            if (coin == NONE) {
                return false;
            }
            land.home[h] = street;
            state.irons[h] = irons;
            state.coin[h] = coin;
            if (tape.word == Word.CHILD) {
                land.children |= 1 << h;
                tape.advance();
            }
            land.hands++;
            return true;
        }

        private boolean readWants() {
            tape.advance();
            int h = tape.takeName(land.handNames, land.hands);
            int q = h == NONE ? NONE : tape.seeName(land.questionNames, land.questions);
            if (q == NONE) {
                return false;
            }
            if (state.wayWanted(h, q) != NO_WAY) {
                return tape.fail(NAME_OFF);
            }
            tape.advance();
            int w = tape.takeWay();
            if (w == NONE) {
                return false;
            }
            state.turnHand(h, q, w);
            return true;
        }

        private boolean readGrants() {
            tape.advance();
            int q = tape.takeName(land.questionNames, land.questions);
            int street = q == NONE ? NONE : tape.seeName(land.streetNames, land.streets);
            if (street == NONE) {
                return false;
            }
            if (land.grantTo(q, street) != 0) {
                return tape.fail(NAME_OFF);
            }
            tape.advance();
            int n = tape.takeNumber(1, MOST_GRANT);
            if (n == NONE) {
                return false;
            }
            land.granted[q * STREETS + street] = n;
            return true;
        }

        private boolean readOfWay(int[] row, int toldLeft, int most) {
            tape.advance();
            int w = tape.seeWay();
            if (w == NONE || w >= row.length || !seeOnce(toldLeft << w)) {
                return false;
            }
            tape.advance();
            int n = tape.takeNumber(0, most);
            if (n == NONE) {
                return false;
            }
            row[w] = n;
            return true;
        }

        private boolean readPrice() {
            if (!seeOnce(TOLD_PRICE)) {
                return false;
            }
            tape.advance();
            land.price = tape.takeNumber(1, MOST_PRICE);
            return land.price != NONE;
        }

        private boolean readWage() {
            if (!seeOnce(TOLD_WAGE)) {
                return false;
            }
            tape.advance();
            land.wage = tape.takeNumber(0, MOST_WAGE);
            return land.wage != NONE;
        }

        private boolean seeOnce(int mark) {
            if ((toldOnce & mark) != 0) {
                return tape.fail(NAME_OFF);
            }
            toldOnce |= mark;
            return true;
        }

        /** Whether the tape is a sentence on the hands of this valley. */
        boolean readSentence(Valley known) {
            saying.clear();
            tape.open(SENTENCE_BYTES);
            return readCond(known, 1) && tape.closes();
        }

        private boolean readCond(Valley known, int depth) {
            if (!readAll(known, depth)) {
                return false;
            }
            for (int parts = 0; parts < ONES && tape.word == Word.OR; parts++) {
                tape.advance();
                if (!readAll(known, depth) || !saying.add(Sentence.OR, 0, 0)) {
                    return false;
                }
            }
            return true;
        }

        private boolean readAll(Valley known, int depth) {
            if (!readOne(known, depth)) {
                return false;
            }
            for (int parts = 0; parts < ONES && tape.word == Word.AND; parts++) {
                tape.advance();
                if (!readOne(known, depth) || !saying.add(Sentence.AND, 0, 0)) {
                    return false;
                }
            }
            return true;
        }

        private boolean readOne(Valley known, int depth) {
            if (!startsOne()) {
                return tape.fail(CANT_COME);
            }
            if (saying.ones >= ONES || depth > ONES_WITHIN) {
                return tape.fail(TOO_MANY);
            }
            saying.ones++;
            Word first = tape.word;
            tape.advance();
            switch (first) {
                case NOT:
                    return readOne(known, depth + 1) && saying.add(Sentence.NOT, 0, 0);
                case SILENT:
                    return saying.add(Sentence.SILENT, 0, 0);
                case CHILD:
                    return saying.add(Sentence.CHILD, 0, 0);
                case OF:
                    return readNamed(Sentence.OF, known.streetNames, known.streets);
                case FOR:
                    return readNamed(Sentence.FOR, known.questionNames, known.questions);
                case AGAINST:
                    return readNamed(Sentence.AGAINST, known.questionNames, known.questions);
                case IRONS:
                    return readCompared(Sentence.IRONS);
                case COIN:
                    return readCompared(Sentence.COIN);
                case NUMBER:
                    return readCompared(Sentence.NUMBER);
                default:
                    return readCond(known, depth + 1) && tape.takeSign(')');
            }
        }

        private boolean startsOne() {
            switch (tape.word) {
                case NOT:
                case SILENT:
                case CHILD:
                case OF:
                case FOR:
                case AGAINST:
                case IRONS:
                case COIN:
                case NUMBER:
                    return true;
                default:
                    return tape.sign == '(';
            }
        }

        private boolean readNamed(int kind, long[] names, int told) {
            int found = tape.seeName(names, told);
            if (found == NONE) {
                return false;
            }
            tape.advance();
            return saying.add(kind, found, 0);
        }

        private boolean readCompared(int kind) {
            int sign = tape.sign;
            if (sign != '<' && sign != '=' && sign != '>') {
                return tape.fail(CANT_COME);
            }
            tape.advance();
            int number = tape.takeNumber(0, MOST_NUMBER);
            return number != NONE && saying.add(kind, number, sign);
        }

        /** Whether the tape is a book of this valley. */
        boolean readBook(Valley known) {
            pages.lines = 0;
            tape.open(BOOK_BYTES);
            int seen = 0;
            while (seen <= BOOK_LINES && !tape.isAtEnd()) {
                if (!readBookLine(known) || !tape.takeSign(';')) {
                    return false;
                }
                seen++;
            }
            return tape.closes();
        }

        private boolean readBookLine(Valley known) {
            int h = NONE;
            if (!startsBookLine()) {
                h = tape.seeName(known.handNames, known.hands);
                if (h == NONE) {
                    return false;
                }
            }
            if (pages.lines >= BOOK_LINES) {
                return tape.fail(TOO_MANY);
            }
            Word first = tape.word;
            tape.advance();
            return h == NONE ? readPlainLine(known, first) : readHandLine(known, h);
        }

        private boolean startsBookLine() {
            switch (tape.word) {
                case PUT:
                case LAY:
                case DRY_DAY:
                case WET_DAY:
                case SNOW_DAY:
                case DAY:
                    return true;
                default:
                    return false;
            }
        }

        private boolean readHandLine(Valley known, int h) {
            Word act = tape.word;
            if (act != Word.BUYS && act != Word.STRIKES && act != Word.WORKS && act != Word.SWAYED) {
                return tape.fail(CANT_COME);
            }
            tape.advance();
            switch (act) {
                case BUYS:
                    int n = tape.takeNumber(1, MOST_IRONS);
                    return n != NONE && pages.add(ACT_BUY, h, 0, n);
                case STRIKES:
                    return pages.add(ACT_STRIKE, h, 0, 0);
                case WORKS:
                    return pages.add(ACT_WORK, h, 0, 0);
                default:
                    int q = tape.takeName(known.questionNames, known.questions);
                    int w = q == NONE ? NONE : tape.takeWay();
                    return w != NONE && pages.add(ACT_SWAY, h, q, w);
            }
        }

        private boolean readPlainLine(Valley known, Word first) {
            switch (first) {
                case PUT:
                    int q = tape.takeName(known.questionNames, known.questions);
                    return q != NONE && pages.add(ACT_PUT, 0, q, 0);
                case LAY:
                    int w = tape.takeWay();
                    int sand = w == NONE ? NONE : tape.takeNumber(0, MOST_SAND);
                    return sand != NONE && pages.add(ACT_LAY, 0, w, sand);
                case DRY_DAY:
                    return pages.add(ACT_WEATHER, 0, DRY, 0);
                case WET_DAY:
                    return pages.add(ACT_WEATHER, 0, WET, 0);
                case SNOW_DAY:
                    return pages.add(ACT_WEATHER, 0, SNOW, 0);
                default:
                    int n = tape.takeNumber(1, MOST_DAYS);
                    return n != NONE && pages.add(ACT_DAY, 0, 0, n);
            }
        }
    }

    /** Finds the fewest irons by which a question is carried, and who buys them. */
    private static final class Purchase {
        private static final int ALL_IRONS = HANDS * MOST_IRONS;
        private static final int ROW = ALL_IRONS + 1;

        /** How loud hand h and those behind it can be by at most t irons more: at h * ROW + t. */
        private final int[] loudest = new int[(HANDS + 1) * ROW];
        private final int[] room = new int[HANDS];
        private int goers;
        private int needed;

        int leastIrons(Valley land, State state, int q) {
            goers = state.left[q];
            int against = state.wayNoise(land, state.right[q], RIGHT);
            needed = Math.max(1, against + 1 - land.echo[LEFT]);
            measureRoom(land, state);
            fillLoudest(land, state);
            for (int t = 0; t <= ALL_IRONS; t++) {
                if (loudest[t] >= needed) {
                    return t;
                }
            }
            return NONE;
        }

        private void measureRoom(Valley land, State state) {
            for (int h = 0; h < land.hands; h++) {
                boolean buyer = (goers >> h & 1) != 0 && !state.isSilent(h) && land.price > 0;
                int payable = buyer ? state.coin[h] / land.price : 0;
                room[h] = buyer ? Math.min(payable, MOST_IRONS - state.irons[h]) : 0;
            }
        }

        private int loudWith(Valley land, State state, int h, int more) {
            return (goers >> h & 1) != 0 ? state.handNoise(land, h, LEFT, more) : 0;
        }

        private void fillLoudest(Valley land, State state) {
            for (int t = 0; t <= ALL_IRONS; t++) {
                loudest[land.hands * ROW + t] = 0;
            }
            for (int h = land.hands - 1; h >= 0; h--) {
                for (int t = 0; t <= ALL_IRONS; t++) {
                    int best = 0;
                    for (int k = 0; k <= room[h] && k <= t; k++) {
                        int loud = loudWith(land, state, h, k) + loudest[(h + 1) * ROW + t - k];
                        best = Math.max(best, loud);
                    }
                    loudest[h * ROW + t] = best;
                }
            }
        }

        /** Shares the irons that leastIrons() found: the fewest to the first hand, and so on. */
        void share(Valley land, State state, int irons, int[] shares) {
            int left = irons;
            int lacking = needed;
            for (int h = 0; h < land.hands && h < shares.length; h++) {
                int k = 0;
                while (k < room[h] && k < left
                        && loudWith(land, state, h, k) + loudest[(h + 1) * ROW + left - k] < lacking) {
                    k++;
                }
                shares[h] = k;
                left -= k;
                lacking -= loudWith(land, state, h, k);
            }
        }
    }

    /** What calls told last, for the calls that ask for it. */
    private static final class Last {
        int faultKind;
        int handsWon = NONE;
        int streetsWon = NONE;
        final int[] ironsBought = new int[HANDS];
        int buyers;
        final int[] agendaOrder = new int[QUESTIONS];
        int agendaLength;
        int sureHands = NONE;
        int handToAsk = NONE;
        final StringBuilder cry = new StringBuilder();
        boolean bookTold;
        int bookWhy;
        int bookLines;
        int bookDay;
        int bookCarried;

        void cryName(long name) {
            for (int shift = 35; shift >= 0; shift -= 5) {
                int letter = (int) (name >>> shift & 31);
                if (letter != 0) {
                    cry.append((char) ('a' + letter - 1));
                }
            }
        }

        void keepBook(int why, int lines, int day, int carried) {
            bookTold = true;
            bookWhy = why;
            bookLines = lines;
            bookDay = day;
            bookCarried = carried;
        }
    }

    /** A place in which all is kept. */
    private static final class Image {
        final Valley land = new Valley();
        final State state = new State();
        final Sentence saying = new Sentence();
        boolean kept;
    }
}
