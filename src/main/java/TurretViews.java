import java.util.Arrays;
import java.util.NoSuchElementException;

/**
 * A suburb of turrets that look at views, and persons who climb them; see README.md.
 * Bits stand for rows of VIEWS, TURRETS or PERSONS: bit k is number k.
 */
public final class TurretViews {
    public static final int NONE = -1;

    private static final int MOST_TAPE = 940;
    private static final int FED_NUMBERS = 5;
    private static final int FED_BYTES = 4;
    private static final int MOST_SUBURB = 900;
    private static final int MOST_BOOK = 400;
    private static final int MOST_SENTENCE = 200;

    private static final int MOST_TURRETS = 7;
    private static final int TURRET_SETS = 128;
    private static final int MOST_PERSONS = 6;
    private static final int VIEWS = 8;
    private static final int HALF_ROUND = 4;
    private static final int VIEW_SETS = 256;
    private static final int ALL_VIEWS = 255;
    private static final int MOST_NUMBER = 60;
    private static final int ALL_DAYS = 400;
    private static final int MOST_LINES = 40;
    private static final int MOST_ONES = 20;
    private static final int MOST_WITHIN = 8;
    private static final int MOST_STEPS = 40;
    private static final int MOST_UNDONE = 8;
    private static final int IMAGES = 2;
    private static final int MOST_MADE = 3;
    private static final int MOST_ROUNDS = 10;
    private static final int MOST_SEEDS = 30;
    private static final int ODDS_DAYS = 20;
    private static final int MOST_CARD = 96;
    private static final int ANOTHER_LIVES = -1000;

    private static final int SLIT = 0;
    private static final int BOW = 1;
    private static final int ROUND = 2;

    private static final int FAULT_TOKEN = 1;
    private static final int FAULT_NUMBER = 2;
    private static final int FAULT_NAME = 3;
    private static final int FAULT_MANY = 4;

    /** The WORDS that are no NAMES, a blank behind each; their numbers below go through all three rows. */
    private static final String SUBURB_WORDS =
        "turret person thinks wants vane slit bow round octagon duty sea thrift dogs love war music tea ";
    private static final String BOOK_WORDS = "climbs lands tells storm wall unwall day ";
    private static final String SENTENCE_WORDS = "or and not up mild pleased has on views nerve climbed number ";
    private static final int WORD_COUNT = 36;
    private static final int LONGEST_WORD = 7;
    private static final int LONGEST_NUMBER = 3;
    private static final int MOST_TOLD = 999;
    private static final int SIGNS_BASE = 32;
    private static final int AHEAD_OF_A = 96;

    private static final int W_TURRET = 0;
    private static final int W_PERSON = 1;
    private static final int W_THINKS = 2;
    private static final int W_WANTS = 3;
    private static final int W_VANE = 4;
    private static final int W_SLIT = 5;
    private static final int SHAPES = 4;
    private static final int W_DUTY = 9;
    private static final int W_CLIMBS = 17;
    private static final int W_LANDS = 18;
    private static final int W_TELLS = 19;
    private static final int W_STORM = 20;
    private static final int W_WALL = 21;
    private static final int W_UNWALL = 22;
    private static final int W_DAY = 23;
    private static final int PERSONS_ACTS = 3;
    private static final int PLAIN_ACTS = 4;
    private static final int W_OR = 24;
    private static final int W_AND = 25;
    private static final int W_NOT = 26;
    private static final int W_UP = 27;
    private static final int W_MILD = 28;
    private static final int W_PLEASED = 29;
    private static final int W_HAS = 30;
    private static final int W_ON = 31;
    private static final int W_VIEWS = 32;
    private static final int W_NERVE = 33;
    private static final int W_CLIMBED = 34;
    private static final int W_NUMBER = 35;

    private final Reader reader;
    private final Tape tape;
    private final Suburb suburb;
    private final Suburb spare;
    private final Sentence sentence;
    private final Sentence spareSentence;
    private final Book pages;
    private final History history;
    private final Image[] images;
    private final Rows rows;
    private final Party guests;
    private final Tea table;
    private final Draws draws;
    private final Tape letters;
    private final int[] judged;
    private int latestFault;
    private int latestCover;

    public TurretViews() {
        reader = new Reader();
        tape = reader.text;
        suburb = new Suburb();
        spare = new Suburb();
        sentence = new Sentence();
        spareSentence = new Sentence();
        pages = new Book();
        history = new History();
        images = new Image[IMAGES];
        for (int i = 0; i < IMAGES; i++) {
            images[i] = new Image();
        }
        rows = new Rows();
        guests = new Party();
        table = new Tea();
        draws = new Draws();
        letters = new Tape(MOST_CARD);
        judged = new int[] {NONE, NONE, NONE, NONE};
        latestFault = 0;
        latestCover = NONE;
    }

    public int feed(int a, int b, int c, int d, int e) {
        if (tape.length + FED_NUMBERS * FED_BYTES > MOST_TAPE) {
            return NONE;
        }
        tape.addNumber(a);
        tape.addNumber(b);
        tape.addNumber(c);
        tape.addNumber(d);
        tape.addNumber(e);
        return tape.length;
    }

    public boolean end(int n) {
        if (n < 0 || n > tape.length) {
            return false;
        }
        tape.length = n;
        return true;
    }

    public int suburb() {
        int lines = spare.readFrom(reader);
        closeText();
        if (lines == NONE) {
            return -1 - reader.place;
        }
        suburb.copyFrom(spare);
        sentence.empty();
        history.forget();
        return lines;
    }

    public int fault() {
        return latestFault;
    }

    public int person(int p, int what) throws NoSuchElementException {
        if (!suburb.hasPerson(p)) {
            throw new NoSuchElementException("no such person");
        }
        switch (what) {
            case 0: return suburb.have[p];
            case 1: return suburb.wanted[p];
            case 2: return suburb.nerves[p];
            case 3: return suburb.upOn[p];
            case 4: return suburb.climbs[p];
            case 5: return suburb.climbable(p);
            case 6: return suburb.friendsOf(p);
            default: throw new NoSuchElementException("no such what");
        }
    }

    public int turret(int t, int what) {
        if (!suburb.hasTurret(t)) {
            return NONE;
        }
        switch (what) {
            case 0: return suburb.shapes[t];
            case 1: return suburb.firstViews[t];
            case 2: return suburb.highs[t];
            case 3: return suburb.vanes >> t & 1;
            case 4: return suburb.walled >> t & 1;
            case 5: return suburb.whoIsUp(t);
            case 6: return suburb.lookBits(t);
            default: return NONE;
        }
    }

    public int looks(int t, int k) {
        if (!suburb.hasTurret(t) || k < 0 || k >= suburb.lookCount(t)) {
            return NONE;
        }
        return suburb.lookAt(t, k);
    }

    public int now(int what) {
        switch (what) {
            case 0: return suburb.day;
            case 1: return suburb.upBits();
            case 2: return suburb.mildBits();
            case 3: return suburb.pleasedBits();
            case 4: return suburb.walled;
            case 5: return suburb.allClimbs();
            case 6: return suburb.allViews();
            default: return NONE;
        }
    }

    public int climb(int p, int t) {
        if (!suburb.hasPerson(p) || !suburb.hasTurret(t)) {
            return NONE;
        }
        history.open(suburb);
        return settle(suburb.goUp(p, t));
    }

    public int land(int p) {
        if (!suburb.hasPerson(p)) {
            return NONE;
        }
        history.open(suburb);
        return settle(suburb.comeDown(p));
    }

    public int tell(int p, int q, int view) {
        if (!suburb.hasPerson(p) || !suburb.hasPerson(q) || view < 0 || view >= VIEWS) {
            return NONE;
        }
        history.open(suburb);
        return settle(suburb.passOn(p, q, view));
    }

    public int storm(int n) {
        if (n < 1 || n > MOST_NUMBER) {
            return NONE;
        }
        history.open(suburb);
        return settle(suburb.blow(n));
    }

    public int wall(int t) {
        if (!suburb.hasTurret(t)) {
            return NONE;
        }
        history.open(suburb);
        return settle(suburb.close(t));
    }

    public int unwall(int t) {
        if (!suburb.hasTurret(t)) {
            return NONE;
        }
        history.open(suburb);
        return settle(suburb.open(t));
    }

    public int days(int n) {
        if (n < 1 || n > MOST_NUMBER) {
            return NONE;
        }
        history.open(suburb);
        return settleMany(suburb.passDays(n));
    }

    public int undo() {
        if (history.many == 0) {
            return NONE;
        }
        suburb.copyFrom(history.stepBack());
        return history.many;
    }

    public int behind(int views, int t) {
        if (views < 0 || views > ALL_VIEWS || !suburb.hasTurret(t)) {
            return NONE;
        }
        return suburb.afterClimb(views, t);
    }

    public int soonest(int p) {
        return suburb.hasPerson(p) ? rows.findSoonest(suburb, p) : NONE;
    }

    public int soonestAt(int k) {
        return k < 0 || k >= rows.soonestLength ? NONE : rows.soonestRow[k];
    }

    public int made() {
        boolean asTold = tape.length == 2;
        tape.length = 0;
        return asTold ? rows.countMade(suburb, tape.bytes[0], tape.bytes[1]) : NONE;
    }

    public int madeAt(int k) {
        return k < 0 || k >= rows.madeLength ? NONE : rows.madeRow[k];
    }

    public int ask() {
        int best = NONE;
        int fewest = suburb.persons + 1;
        for (int view = 0; view < VIEWS && suburb.persons > 0; view++) {
            int having = suburb.howManyHave(view);
            int left = Math.max(having, suburb.persons - having);
            if (left < fewest) {
                fewest = left;
                best = view;
            }
        }
        return best;
    }

    public int cover() {
        int fewest = MOST_TURRETS + 1;
        int least = NONE;
        for (int set = 0; set < 1 << suburb.turrets; set++) {
            int many = Integer.bitCount(set);
            if (many < fewest && (set & suburb.walled) == 0 && suburb.lookBitsOfAll(set) == ALL_VIEWS) {
                fewest = many;
                least = set;
            }
        }
        if (least == NONE) {
            return NONE;
        }
        latestCover = least;
        return fewest;
    }

    public int covering() {
        return latestCover;
    }

    public int party() {
        return guests.plan(suburb);
    }

    public int partyOf(int p) {
        return p < 0 || p >= MOST_PERSONS ? NONE : guests.chosen[p];
    }

    public int tea() {
        return table.sit(suburb);
    }

    public int teaOf(int p) {
        return p < 0 || p >= table.persons ? NONE : table.have[p];
    }

    public int when(int t, int view) {
        if (!suburb.hasTurret(t) || view < 0 || view >= VIEWS) {
            return NONE;
        }
        int ahead = allRound(view - suburb.firstViews[t]);
        return ahead == 0 || (suburb.vanes >> t & 1) == 1 ? ahead : NONE;
    }

    public int card(int p) {
        if (!suburb.hasPerson(p)) {
            return NONE;
        }
        letters.length = 0;
        letters.addWord(suburb.personNames[p]);
        int up = suburb.upOn[p];
        if (up != NONE) {
            letters.addText(" on ");
            letters.addWord(suburb.turretNames[up]);
        }
        letters.addText(" thinks");
        addViews(suburb.have[p]);
        return letters.length;
    }

    public int byteAt(int i) {
        return i < 0 || i >= letters.length ? NONE : letters.bytes[i];
    }

    public int drawn(int n, int seed) {
        if (n < 1 || n > MOST_NUMBER) {
            return NONE;
        }
        history.open(suburb);
        return settleMany(draws.drawDays(suburb, n, seed));
    }

    public int odds(int p, int n, int seed) {
        if (!suburb.hasPerson(p) || n < 1 || n > MOST_SEEDS) {
            return NONE;
        }
        int many = 0;
        for (int i = 0; i < n; i++) {
            spare.copyFrom(suburb);
            draws.drawDays(spare, ODDS_DAYS, seed + i);
            if (spare.isPleased(p)) {
                many++;
            }
        }
        return many;
    }

    public int book(int lives) {
        if (lives != 0 && lives != 1) {
            return ANOTHER_LIVES;
        }
        boolean sound = pages.readFrom(reader, suburb);
        closeText();
        if (!sound) {
            return -2 - reader.place;
        }
        if (lives == 0) {
            spare.copyFrom(suburb);
            return judge(spare);
        }
        history.open(suburb);
        int wrong = judge(suburb);
        settleMany(judged[1]);
        return wrong;
    }

    public int told(int what) {
        return what < 0 || what >= judged.length ? NONE : judged[what];
    }

    public int sentence() {
        boolean sound = spareSentence.readFrom(reader, suburb);
        closeText();
        if (!sound) {
            return -1 - reader.place;
        }
        sentence.copyFrom(spareSentence);
        return sentence.ones;
    }

    public int said(int k) {
        if (sentence.ones == 0 || k < NONE) {
            return NONE;
        }
        int many = 0;
        for (int p = 0; p < suburb.persons; p++) {
            if (sentence.holdsOf(suburb, p)) {
                if (many == k) {
                    return p;
                }
                many++;
            }
        }
        return k == NONE ? many : NONE;
    }

    public boolean image(int k) {
        if (k < 0 || k >= IMAGES) {
            return false;
        }
        images[k].suburb.copyFrom(suburb);
        images[k].sentence.copyFrom(sentence);
        images[k].kept = true;
        return true;
    }

    public boolean restore(int k) {
        if (k < 0 || k >= IMAGES || !images[k].kept) {
            return false;
        }
        suburb.copyFrom(images[k].suburb);
        sentence.copyFrom(images[k].sentence);
        history.forget();
        return true;
    }

    public int count(int what) {
        switch (what) {
            case 0: return suburb.turrets;
            case 1: return suburb.persons;
            case 2: return tape.length;
            default: return NONE;
        }
    }

    /** The tape is empty behind every text, sound or not. */
    private void closeText() {
        latestFault = reader.fault;
        tape.length = 0;
    }

    private int settle(int whyNot) {
        if (whyNot == 0) {
            history.keep();
        }
        return whyNot;
    }

    private int settleMany(int many) {
        if (many > 0) {
            history.keep();
        }
        return many;
    }

    private void addViews(int views) {
        if (views == 0) {
            letters.addText(" nothing");
        }
        for (int view = 0; view < VIEWS; view++) {
            if ((views >> view & 1) == 1) {
                letters.addText(" ");
                letters.addWord(reader.words[W_DUTY + view]);
            }
        }
    }

    private int judge(Suburb of) {
        int why = 0;
        int line = 0;
        for (; line < pages.lines; line++) {
            why = pages.liveLine(of, line);
            if (why != 0) {
                break;
            }
        }
        judged[0] = why;
        judged[1] = line;
        judged[2] = of.day;
        judged[3] = of.pleasedBits();
        return why == 0 ? NONE : line;
    }

    private static int allRound(int view) {
        return view & (VIEWS - 1);
    }

    private static int opposite(int view) {
        return (view + HALF_ROUND) & (VIEWS - 1);
    }

    private static int having(int views, int view) {
        return (views | 1 << view) & ~(1 << opposite(view));
    }

    /** Bytes, 0 to 255 each; what finds no room is left out. */
    private static final class Tape {
        final int[] bytes;
        int length;

        Tape(int most) {
            bytes = new int[most];
            length = 0;
        }

        void addByte(int b) {
            if (length < bytes.length) {
                bytes[length] = b;
                length++;
            }
        }

        void addNumber(int number) {
            for (int shift = 24; shift >= 0; shift -= 8) {
                addByte(number >>> shift & 255);
            }
        }

        void addText(String text) {
            for (int i = 0; i < text.length(); i++) {
                addByte(text.charAt(i));
            }
        }

        /** The letters of a WORD that a Reader has made a number. */
        void addWord(long code) {
            for (int shift = 5 * (LONGEST_WORD - 1); shift >= 0; shift -= 5) {
                int letter = (int) (code >>> shift) & (SIGNS_BASE - 1);
                if (letter != 0) {
                    addByte(letter + AHEAD_OF_A);
                }
            }
        }
    }

    /**
     * Splits the tape into TOKENS and goes through them, keeping the first FAULT. Behind a
     * FAULT nothing more is taken, so that whoever reads need look for one only at the end.
     */
    private static final class Reader {
        /** Sorts of TOKENS; a WORD that is no NAME has its own number for a sort. */
        private static final int A_NAME = WORD_COUNT;
        private static final int A_NUMBER = 37;
        private static final int A_MARK = 38;
        private static final int NO_TOKEN = 39;
        private static final int AT_END = 40;

        final Tape text;
        final long[] words;
        private final int[] starts;
        private final int[] sorts;
        private final long[] values;
        private int many;
        private int at;
        private boolean tooLong;
        int fault;
        int place;

        Reader() {
            text = new Tape(MOST_TAPE);
            words = new long[WORD_COUNT];
            starts = new int[MOST_SUBURB + 1];
            sorts = new int[MOST_SUBURB + 1];
            values = new long[MOST_SUBURB + 1];
            learn(SUBURB_WORDS, W_TURRET);
            learn(BOOK_WORDS, W_CLIMBS);
            learn(SENTENCE_WORDS, W_OR);
        }

        private void learn(String row, int first) {
            int number = first;
            long letters = 0;
            for (int i = 0; i < row.length(); i++) {
                char c = row.charAt(i);
                if (c != ' ') {
                    letters = letters * SIGNS_BASE + (c - AHEAD_OF_A);
                } else if (number < WORD_COUNT) {
                    words[number] = letters;
                    number++;
                    letters = 0;
                }
            }
        }

        /** TOKENS that begin ahead of the most bytes are split off, whole; then the end. */
        void begin(int most) {
            int ends = Math.min(text.length, most);
            many = 0;
            int split = 0;
            for (int i = 0; i < ends; i++) {
                if (i >= split) {
                    split = splitAt(i);
                }
            }
            addToken(ends, AT_END, 0);
            tooLong = text.length > most;
            at = 0;
            fault = 0;
            place = 0;
        }

        /** Splits off what begins here: where it ends. */
        private int splitAt(int start) {
            int sign = text.bytes[start];
            if (isRunSign(sign)) {
                return splitRun(start);
            }
            if (sign != ' ' && sign != '\n') {
                addToken(start, isMarkSign(sign) ? A_MARK : NO_TOKEN, sign);
            }
            return start + 1;
        }

        private int splitRun(int start) {
            int letters = 0;
            long word = 0;
            long number = 0;
            int i = start;
            for (; i < text.length && isRunSign(text.bytes[i]); i++) {
                int sign = text.bytes[i];
                letters += sign >= 'a' ? 1 : 0;
                word = word * SIGNS_BASE + (sign - AHEAD_OF_A);
                number = number * 10 + (sign - '0');
            }
            int length = i - start;
            if (letters == length && length <= LONGEST_WORD) {
                addToken(start, wordSort(word), word);
            } else if (letters == 0 && length <= LONGEST_NUMBER) {
                addToken(start, A_NUMBER, number);
            } else {
                addToken(start, NO_TOKEN, 0);
            }
            return i;
        }

        private void addToken(int start, int sort, long value) {
            if (many < starts.length) {
                starts[many] = start;
                sorts[many] = sort;
                values[many] = value;
                many++;
            }
        }

        private int wordSort(long word) {
            for (int i = 0; i < WORD_COUNT; i++) {
                if (words[i] == word) {
                    return i;
                }
            }
            return A_NAME;
        }

        private static boolean isRunSign(int sign) {
            return sign >= 'a' && sign <= 'z' || sign >= '0' && sign <= '9';
        }

        private static boolean isMarkSign(int sign) {
            return sign == ';' || sign == '<' || sign == '=' || sign == '>' || sign == '(' || sign == ')';
        }

        void fail(int faultKind) {
            if (fault == 0) {
                fault = faultKind;
                place = starts[at];
            }
        }

        void next() {
            if (sorts[at] != AT_END) {
                at++;
            }
        }

        boolean goesOn() {
            return fault == 0 && sorts[at] != AT_END;
        }

        /** The text is over, and was not too long. */
        boolean closes() {
            if (sorts[at] != AT_END || tooLong) {
                fail(FAULT_TOKEN);
            }
            return fault == 0;
        }

        boolean isWord(int number) {
            return fault == 0 && sorts[at] == number;
        }

        boolean isWordFrom(int first, int manyWords) {
            return fault == 0 && sorts[at] >= first && sorts[at] < first + manyWords;
        }

        boolean isMark(char mark) {
            return fault == 0 && sorts[at] == A_MARK && values[at] == mark;
        }

        boolean isName() {
            return fault == 0 && sorts[at] == A_NAME;
        }

        boolean takeWord(int number) {
            boolean is = isWord(number);
            if (is) {
                next();
            }
            return is;
        }

        boolean takeMark(char mark) {
            boolean is = isMark(mark);
            if (is) {
                next();
            }
            return is;
        }

        void needMark(char mark) {
            if (!takeMark(mark)) {
                fail(FAULT_TOKEN);
            }
        }

        /** Which of the WORDS from the first on it is; NONE, with a FAULT, for another TOKEN. */
        int needWordFrom(int first, int manyWords) {
            if (!isWordFrom(first, manyWords)) {
                fail(FAULT_TOKEN);
                return NONE;
            }
            int which = sorts[at] - first;
            next();
            return which;
        }

        int needSign() {
            int sign = (int) values[at];
            if (isMark('<') || isMark('=') || isMark('>')) {
                next();
            } else {
                fail(FAULT_TOKEN);
            }
            return sign;
        }

        int needNumber(int least, int greatest) {
            if (fault != 0 || sorts[at] != A_NUMBER) {
                fail(FAULT_TOKEN);
                return NONE;
            }
            int number = (int) values[at];
            if (number < least || number > greatest) {
                fail(FAULT_NUMBER);
                return NONE;
            }
            next();
            return number;
        }

        long needNewName(Suburb told) {
            long name = values[at];
            if (!isName()) {
                fail(FAULT_TOKEN);
            } else if (told.turretNamed(name) != NONE || told.personNamed(name) != NONE) {
                fail(FAULT_NAME);
            } else {
                next();
            }
            return name;
        }

        int needTurret(Suburb told) {
            int which = isName() ? told.turretNamed(values[at]) : NONE;
            if (which == NONE) {
                fail(isName() ? FAULT_NAME : FAULT_TOKEN);
            } else {
                next();
            }
            return which;
        }

        int needPerson(Suburb told) {
            int which = seePerson(told);
            if (which != NONE) {
                next();
            }
            return which;
        }

        /** Which PERSON it is, without going on: a BOOK's LINE may be one too many at this WORD. */
        int seePerson(Suburb told) {
            int which = isName() ? told.personNamed(values[at]) : NONE;
            if (which == NONE) {
                fail(isName() ? FAULT_NAME : FAULT_TOKEN);
            }
            return which;
        }

        /** A VIEW that is not among those told, nor OPPOSITE to one. */
        int needNewView(int told) {
            int view = isWordFrom(W_DUTY, VIEWS) ? sorts[at] - W_DUTY : NONE;
            if (view != NONE && (told & (1 << view | 1 << opposite(view))) != 0) {
                fail(FAULT_NAME);
                return NONE;
            }
            return needWordFrom(W_DUTY, VIEWS);
        }
    }

    /** TURRETS and PERSONS as told, and all that is so of them on the DAY. */
    private static final class Suburb {
        int turrets;
        final long[] turretNames;
        final int[] shapes;
        final int[] firstViews;
        final int[] highs;
        int vanes;
        int walled;
        int persons;
        final long[] personNames;
        final int[] have;
        final int[] wanted;
        final int[] nerves;
        final int[] upOn;
        final int[] climbs;
        int day;

        Suburb() {
            turretNames = new long[MOST_TURRETS];
            shapes = new int[MOST_TURRETS];
            firstViews = new int[MOST_TURRETS];
            highs = new int[MOST_TURRETS];
            personNames = new long[MOST_PERSONS];
            have = new int[MOST_PERSONS];
            wanted = new int[MOST_PERSONS];
            nerves = new int[MOST_PERSONS];
            upOn = new int[MOST_PERSONS];
            climbs = new int[MOST_PERSONS];
        }

        void copyFrom(Suburb other) {
            turrets = other.turrets;
            System.arraycopy(other.turretNames, 0, turretNames, 0, MOST_TURRETS);
            System.arraycopy(other.shapes, 0, shapes, 0, MOST_TURRETS);
            System.arraycopy(other.firstViews, 0, firstViews, 0, MOST_TURRETS);
            System.arraycopy(other.highs, 0, highs, 0, MOST_TURRETS);
            vanes = other.vanes;
            walled = other.walled;
            persons = other.persons;
            System.arraycopy(other.personNames, 0, personNames, 0, MOST_PERSONS);
            System.arraycopy(other.have, 0, have, 0, MOST_PERSONS);
            System.arraycopy(other.wanted, 0, wanted, 0, MOST_PERSONS);
            System.arraycopy(other.nerves, 0, nerves, 0, MOST_PERSONS);
            System.arraycopy(other.upOn, 0, upOn, 0, MOST_PERSONS);
            System.arraycopy(other.climbs, 0, climbs, 0, MOST_PERSONS);
            day = other.day;
        }

        /** How many LINES; NONE, if the reader has met a FAULT. */
        int readFrom(Reader reader) {
            turrets = 0;
            vanes = 0;
            walled = 0;
            persons = 0;
            day = 0;
            reader.begin(MOST_SUBURB);
            int lines = 0;
            while (lines < MOST_SUBURB && reader.goesOn()) {
                readLine(reader);
                reader.needMark(';');
                lines++;
            }
            return reader.closes() ? lines : NONE;
        }

        private void readLine(Reader reader) {
            if (reader.isWord(W_TURRET)) {
                readTurret(reader);
            } else if (reader.isWord(W_PERSON)) {
                readPerson(reader);
            } else if (reader.takeWord(W_THINKS)) {
                readView(reader, have);
            } else if (reader.takeWord(W_WANTS)) {
                readView(reader, wanted);
            } else {
                reader.fail(FAULT_TOKEN);
            }
        }

        private void readTurret(Reader reader) {
            int t = turrets;
            if (t >= MOST_TURRETS) {
                reader.fail(FAULT_MANY);
                return;
            }
            reader.next();
            turretNames[t] = reader.needNewName(this);
            shapes[t] = reader.needWordFrom(W_SLIT, SHAPES);
            firstViews[t] = reader.needWordFrom(W_DUTY, VIEWS);
            highs[t] = reader.needNumber(1, MOST_NUMBER);
            if (reader.takeWord(W_VANE)) {
                vanes |= 1 << t;
            }
            turrets++;
        }

        private void readPerson(Reader reader) {
            int p = persons;
            if (p >= MOST_PERSONS) {
                reader.fail(FAULT_MANY);
                return;
            }
            reader.next();
            personNames[p] = reader.needNewName(this);
            nerves[p] = reader.needNumber(0, MOST_NUMBER);
            have[p] = 0;
            wanted[p] = 0;
            upOn[p] = NONE;
            climbs[p] = 0;
            persons++;
        }

        private void readView(Reader reader, int[] viewsOf) {
            int p = reader.needPerson(this);
            int view = reader.needNewView(p == NONE ? 0 : viewsOf[p]);
            if (p != NONE && view != NONE) {
                viewsOf[p] |= 1 << view;
            }
        }

        int turretNamed(long name) {
            for (int t = 0; t < turrets; t++) {
                if (turretNames[t] == name) {
                    return t;
                }
            }
            return NONE;
        }

        int personNamed(long name) {
            for (int p = 0; p < persons; p++) {
                if (personNames[p] == name) {
                    return p;
                }
            }
            return NONE;
        }

        boolean hasTurret(int t) {
            return t >= 0 && t < turrets;
        }

        boolean hasPerson(int p) {
            return p >= 0 && p < persons;
        }

        int lookCount(int t) {
            switch (shapes[t]) {
                case SLIT: return 1;
                case BOW: return 3;
                default: return VIEWS;
            }
        }

        int lookAt(int t, int k) {
            int first = firstViews[t];
            switch (shapes[t]) {
                case SLIT: return first;
                case BOW: return allRound(k == 0 ? first : k == 1 ? first - 1 : first + 1);
                case ROUND: return allRound(first + k);
                default: return allRound(first - k);
            }
        }

        int lookBits(int t) {
            int bits = 0;
            int many = lookCount(t);
            for (int k = 0; k < many; k++) {
                bits |= 1 << lookAt(t, k);
            }
            return bits;
        }

        int lookBitsOfAll(int set) {
            int bits = 0;
            for (int t = 0; t < turrets; t++) {
                if ((set >> t & 1) == 1) {
                    bits |= lookBits(t);
                }
            }
            return bits;
        }

        int afterClimb(int views, int t) {
            int after = views;
            int many = lookCount(t);
            for (int k = 0; k < many; k++) {
                after = having(after, lookAt(t, k));
            }
            return after;
        }

        int whoIsUp(int t) {
            for (int p = 0; p < persons; p++) {
                if (upOn[p] == t) {
                    return p;
                }
            }
            return NONE;
        }

        boolean isPleased(int p) {
            return (have[p] & wanted[p]) == wanted[p];
        }

        int upBits() {
            int bits = 0;
            for (int p = 0; p < persons; p++) {
                bits |= upOn[p] == NONE ? 0 : 1 << p;
            }
            return bits;
        }

        int mildBits() {
            int bits = 0;
            for (int p = 0; p < persons; p++) {
                bits |= have[p] == 0 ? 1 << p : 0;
            }
            return bits;
        }

        int pleasedBits() {
            int bits = 0;
            for (int p = 0; p < persons; p++) {
                bits |= isPleased(p) ? 1 << p : 0;
            }
            return bits;
        }

        int allClimbs() {
            int sum = 0;
            for (int p = 0; p < persons; p++) {
                sum += climbs[p];
            }
            return sum;
        }

        int allViews() {
            int sum = 0;
            for (int p = 0; p < persons; p++) {
                sum += Integer.bitCount(have[p]);
            }
            return sum;
        }

        int howManyHave(int view) {
            int many = 0;
            for (int p = 0; p < persons; p++) {
                many += have[p] >> view & 1;
            }
            return many;
        }

        /** That he is up himself is no matter: he would land first. */
        int climbable(int p) {
            int bits = 0;
            for (int t = 0; t < turrets; t++) {
                int who = whoIsUp(t);
                if ((walled >> t & 1) == 0 && highs[t] <= nerves[p] && (who == NONE || who == p)) {
                    bits |= 1 << t;
                }
            }
            return bits;
        }

        int friendsOf(int p) {
            int against = (have[p] << HALF_ROUND | have[p] >> HALF_ROUND) & ALL_VIEWS;
            int bits = 0;
            for (int q = 0; q < persons; q++) {
                if (q != p && (have[q] & against) == 0 && (have[q] & have[p]) != 0) {
                    bits |= 1 << q;
                }
            }
            return bits;
        }

        int goUp(int p, int t) {
            if (upOn[p] != NONE) {
                return 1;
            }
            if (whoIsUp(t) != NONE) {
                return 2;
            }
            if ((walled >> t & 1) == 1) {
                return 3;
            }
            if (highs[t] > nerves[p]) {
                return 4;
            }
            upOn[p] = t;
            climbs[p]++;
            have[p] = afterClimb(have[p], t);
            return 0;
        }

        int comeDown(int p) {
            if (upOn[p] == NONE) {
                return 1;
            }
            upOn[p] = NONE;
            return 0;
        }

        int passOn(int p, int q, int view) {
            if (p == q || upOn[p] != NONE || upOn[q] != NONE) {
                return 1;
            }
            if ((have[p] >> view & 1) == 0) {
                return 2;
            }
            if ((have[q] >> view & 1) == 1) {
                return 3;
            }
            have[q] = having(have[q], view);
            return 0;
        }

        int blow(int n) {
            int whyNot = 1;
            for (int t = 0; t < turrets; t++) {
                if (highs[t] > n) {
                    highs[t] = n;
                    whyNot = 0;
                }
            }
            return whyNot;
        }

        int close(int t) {
            if ((walled >> t & 1) == 1) {
                return 1;
            }
            if (whoIsUp(t) != NONE) {
                return 2;
            }
            walled |= 1 << t;
            return 0;
        }

        int open(int t) {
            if ((walled >> t & 1) == 0) {
                return 1;
            }
            walled &= ~(1 << t);
            return 0;
        }

        int daysLeft() {
            return ALL_DAYS - day;
        }

        int passDays(int n) {
            int gone = Math.min(n, daysLeft());
            for (int i = 0; i < gone; i++) {
                passDay();
            }
            return gone;
        }

        void passDay() {
            for (int t = 0; t < turrets; t++) {
                if ((vanes >> t & 1) == 1) {
                    firstViews[t] = allRound(firstViews[t] + 1);
                }
            }
            day++;
        }
    }

    /** The LINES of a BOOK: an act's WORD each, and of whom, of what, of which VIEW. */
    private static final class Book {
        private final int[] acts;
        private final int[] firsts;
        private final int[] seconds;
        private final int[] views;
        int lines;

        Book() {
            acts = new int[MOST_LINES];
            firsts = new int[MOST_LINES];
            seconds = new int[MOST_LINES];
            views = new int[MOST_LINES];
        }

        boolean readFrom(Reader reader, Suburb told) {
            lines = 0;
            reader.begin(MOST_BOOK);
            for (int i = 0; i < MOST_BOOK && reader.goesOn(); i++) {
                readLine(reader, told);
                reader.needMark(';');
            }
            return reader.closes();
        }

        private void readLine(Reader reader, Suburb told) {
            int who = reader.isWordFrom(W_STORM, PLAIN_ACTS) ? NONE : reader.seePerson(told);
            if (reader.fault == 0 && lines >= MOST_LINES) {
                reader.fail(FAULT_MANY);
            }
            if (reader.fault != 0) {
                return;
            }
            if (who == NONE) {
                readPlain(reader, told, lines);
            } else {
                reader.next();
                readOfPerson(reader, told, lines);
                firsts[lines] = who;
            }
            lines++;
        }

        private void readPlain(Reader reader, Suburb told, int line) {
            acts[line] = W_STORM + reader.needWordFrom(W_STORM, PLAIN_ACTS);
            boolean ofTurret = acts[line] == W_WALL || acts[line] == W_UNWALL;
            firsts[line] = ofTurret ? reader.needTurret(told) : reader.needNumber(1, MOST_NUMBER);
        }

        private void readOfPerson(Reader reader, Suburb told, int line) {
            acts[line] = W_CLIMBS + reader.needWordFrom(W_CLIMBS, PERSONS_ACTS);
            if (acts[line] == W_CLIMBS) {
                seconds[line] = reader.needTurret(told);
            } else if (acts[line] == W_TELLS) {
                seconds[line] = reader.needPerson(told);
                views[line] = reader.needWordFrom(W_DUTY, VIEWS);
            }
        }

        /** Why the LINE is WRONG; 0: it is not, and what it tells is done. */
        int liveLine(Suburb suburb, int line) {
            int first = firsts[line];
            switch (acts[line]) {
                case W_CLIMBS: return ofSort(0, suburb.goUp(first, seconds[line]));
                case W_LANDS: return ofSort(10, suburb.comeDown(first));
                case W_TELLS: return ofSort(20, suburb.passOn(first, seconds[line], views[line]));
                case W_STORM: return ofSort(30, suburb.blow(first));
                case W_WALL: return ofSort(40, suburb.close(first));
                case W_UNWALL: return ofSort(50, suburb.open(first));
                case W_DAY: return ofSort(60, liveDays(suburb, first));
                default: return 0;
            }
        }

        private static int liveDays(Suburb suburb, int n) {
            if (n > suburb.daysLeft()) {
                return 1;
            }
            suburb.passDays(n);
            return 0;
        }

        private static int ofSort(int sort, int whyNot) {
            return whyNot == 0 ? 0 : sort + whyNot;
        }
    }

    /** A SENTENCE as steps, each behind those that it joins; without ONES there is none. */
    private static final class Sentence {
        private final int[] steps;
        private final int[] signs;
        private final int[] numbers;
        private int length;
        int ones;

        Sentence() {
            steps = new int[MOST_STEPS];
            signs = new int[MOST_STEPS];
            numbers = new int[MOST_STEPS];
        }

        void empty() {
            length = 0;
            ones = 0;
        }

        void copyFrom(Sentence other) {
            System.arraycopy(other.steps, 0, steps, 0, MOST_STEPS);
            System.arraycopy(other.signs, 0, signs, 0, MOST_STEPS);
            System.arraycopy(other.numbers, 0, numbers, 0, MOST_STEPS);
            length = other.length;
            ones = other.ones;
        }

        boolean readFrom(Reader reader, Suburb told) {
            empty();
            reader.begin(MOST_SENTENCE);
            readCond(reader, told, 1);
            return reader.closes();
        }

        private void readCond(Reader reader, Suburb told, int depth) {
            readAll(reader, told, depth);
            for (int i = 0; i < MOST_ONES && reader.takeWord(W_OR); i++) {
                readAll(reader, told, depth);
                addStep(W_OR, 0, 0);
            }
        }

        private void readAll(Reader reader, Suburb told, int depth) {
            readOne(reader, told, depth);
            for (int i = 0; i < MOST_ONES && reader.takeWord(W_AND); i++) {
                readOne(reader, told, depth);
                addStep(W_AND, 0, 0);
            }
        }

        private void readOne(Reader reader, Suburb told, int depth) {
            if (!reader.isMark('(') && !reader.isWordFrom(W_NOT, WORD_COUNT - W_NOT)) {
                reader.fail(FAULT_TOKEN);
            } else if (ones >= MOST_ONES || depth > MOST_WITHIN) {
                reader.fail(FAULT_MANY);
            }
            if (reader.fault != 0) {
                return;
            }
            ones++;
            if (reader.takeMark('(')) {
                readCond(reader, told, depth + 1);
                reader.needMark(')');
            } else if (reader.takeWord(W_NOT)) {
                readOne(reader, told, depth + 1);
                addStep(W_NOT, 0, 0);
            } else {
                readPlain(reader, told);
            }
        }

        private void readPlain(Reader reader, Suburb told) {
            int step = W_UP + reader.needWordFrom(W_UP, WORD_COUNT - W_UP);
            int sign = 0;
            int number = 0;
            if (step == W_HAS) {
                number = reader.needWordFrom(W_DUTY, VIEWS);
            } else if (step == W_ON) {
                number = reader.needTurret(told);
            } else if (step >= W_VIEWS) {
                sign = reader.needSign();
                number = reader.needNumber(0, MOST_TOLD);
            }
            addStep(step, sign, number);
        }

        private void addStep(int step, int sign, int number) {
            if (length < MOST_STEPS) {
                steps[length] = step;
                signs[length] = sign;
                numbers[length] = number;
                length++;
            }
        }

        /** What holds so far is kept as bits, the latest lowest: 20 ONES never fill an int. */
        boolean holdsOf(Suburb suburb, int p) {
            int held = 0;
            for (int i = 0; i < length; i++) {
                int latest = held & 1;
                if (steps[i] == W_OR) {
                    held = held >>> 1 | latest;
                } else if (steps[i] == W_AND) {
                    held = held >>> 1 & (latest | ~1);
                } else if (steps[i] == W_NOT) {
                    held ^= 1;
                } else {
                    held = held << 1 | (isSo(suburb, p, i) ? 1 : 0);
                }
            }
            return (held & 1) == 1;
        }

        private boolean isSo(Suburb suburb, int p, int i) {
            switch (steps[i]) {
                case W_UP: return suburb.upOn[p] != NONE;
                case W_MILD: return suburb.have[p] == 0;
                case W_PLEASED: return suburb.isPleased(p);
                case W_HAS: return (suburb.have[p] >> numbers[i] & 1) == 1;
                case W_ON: return suburb.upOn[p] == numbers[i];
                case W_VIEWS: return compares(Integer.bitCount(suburb.have[p]), i);
                case W_NERVE: return compares(suburb.nerves[p], i);
                case W_CLIMBED: return compares(suburb.climbs[p], i);
                case W_NUMBER: return compares(p, i);
                default: return false;
            }
        }

        private boolean compares(int value, int i) {
            switch (signs[i]) {
                case '<': return value < numbers[i];
                case '>': return value > numbers[i];
                default: return value == numbers[i];
            }
        }
    }

    /** What was so ahead of the latest acts; one place more, for an act that may not be done. */
    private static final class History {
        private final Suburb[] kept;
        private int next;
        int many;

        History() {
            kept = new Suburb[MOST_UNDONE + 1];
            for (int i = 0; i <= MOST_UNDONE; i++) {
                kept[i] = new Suburb();
            }
            next = 0;
            many = 0;
        }

        void open(Suburb suburb) {
            kept[next].copyFrom(suburb);
        }

        void keep() {
            next = next == MOST_UNDONE ? 0 : next + 1;
            many = Math.min(many + 1, MOST_UNDONE);
        }

        Suburb stepBack() {
            next = next == 0 ? MOST_UNDONE : next - 1;
            many = Math.max(many - 1, 0);
            return kept[next];
        }

        void forget() {
            many = 0;
        }
    }

    /** What image() keeps. */
    private static final class Image {
        final Suburb suburb;
        final Sentence sentence;
        boolean kept;

        Image() {
            suburb = new Suburb();
            sentence = new Sentence();
            kept = false;
        }
    }

    /** Rows of climbs: the SOONEST, and those that can have MADE a face. */
    private static final class Rows {
        private static final int NOT_SEEN = -2;

        private final int[] queue;
        private final int[] cameFrom;
        private final int[] cameBy;
        final int[] soonestRow;
        int soonestLength;
        private final int[] tried;
        final int[] madeRow;
        int madeLength;

        Rows() {
            queue = new int[VIEW_SETS];
            cameFrom = new int[VIEW_SETS];
            cameBy = new int[VIEW_SETS];
            soonestRow = new int[VIEW_SETS];
            tried = new int[MOST_MADE];
            madeRow = new int[MOST_MADE];
        }

        /**
         * Goes through the sets of VIEWS by how few climbs they come, and those of like
         * ones by their first rows: so the first that will do has the first row of all.
         */
        int findSoonest(Suburb suburb, int p) {
            int climbable = suburb.climbable(p);
            int wanted = suburb.wanted[p];
            Arrays.fill(cameBy, NOT_SEEN);
            queue[0] = suburb.have[p];
            cameBy[queue[0]] = NONE;
            int size = 1;
            for (int i = 0; i < size && i < VIEW_SETS; i++) {
                int views = queue[i];
                if ((views & wanted) == wanted) {
                    keepSoonest(views);
                    return soonestLength;
                }
                for (int t = 0; t < suburb.turrets; t++) {
                    int after = suburb.afterClimb(views, t);
                    if ((climbable >> t & 1) == 1 && cameBy[after] == NOT_SEEN && size < VIEW_SETS) {
                        cameBy[after] = t;
                        cameFrom[after] = views;
                        queue[size] = after;
                        size++;
                    }
                }
            }
            return NONE;
        }

        private void keepSoonest(int views) {
            int length = 0;
            for (int at = views; length < VIEW_SETS && cameBy[at] != NONE; at = cameFrom[at]) {
                length++;
            }
            int at = views;
            for (int k = length - 1; k >= 0; k--) {
                soonestRow[k] = cameBy[at];
                at = cameFrom[at];
            }
            soonestLength = length;
        }

        int countMade(Suburb suburb, int ahead, int behind) {
            int many = 0;
            int codes = 1;
            for (int length = 1; length <= MOST_MADE; length++) {
                codes *= suburb.turrets;
                for (int code = 0; code < codes; code++) {
                    if (climbTried(suburb, ahead, length, code) == behind) {
                        if (many == 0) {
                            System.arraycopy(tried, 0, madeRow, 0, MOST_MADE);
                            madeLength = length;
                        }
                        many++;
                    }
                }
            }
            return many;
        }

        /** The row is the code's digits, to the base of how many TURRETS there are. */
        private int climbTried(Suburb suburb, int ahead, int length, int code) {
            int base = Math.max(suburb.turrets, 1);
            int rest = code;
            for (int k = length - 1; k >= 0; k--) {
                tried[k] = rest % base;
                rest /= base;
            }
            int views = ahead;
            for (int k = 0; k < length; k++) {
                views = suburb.afterClimb(views, tried[k]);
            }
            return views;
        }
    }

    /** Who should climb which TURRET. */
    private static final class Party {
        /** At p * TURRET_SETS + taken: how many of the PERSONS from p on can be pleased then. */
        private final int[] best;
        private final int[] climbable;
        private final int[] pleasing;
        private final int[] pleasedNow;
        final int[] chosen;

        Party() {
            best = new int[(MOST_PERSONS + 1) * TURRET_SETS];
            climbable = new int[MOST_PERSONS];
            pleasing = new int[MOST_PERSONS];
            pleasedNow = new int[MOST_PERSONS];
            chosen = new int[MOST_PERSONS];
            Arrays.fill(chosen, NONE);
        }

        int plan(Suburb suburb) {
            int persons = suburb.persons;
            Arrays.fill(chosen, NONE);
            Arrays.fill(best, 0);
            for (int p = persons - 1; p >= 0; p--) {
                weigh(suburb, p);
                for (int taken = 0; taken < TURRET_SETS; taken++) {
                    best[p * TURRET_SETS + taken] = bestOf(p, taken);
                }
            }
            int taken = 0;
            for (int p = 0; p < persons; p++) {
                chosen[p] = firstBest(p, taken);
                taken |= chosen[p] == NONE ? 0 : 1 << chosen[p];
            }
            return best[0];
        }

        private void weigh(Suburb suburb, int p) {
            int wanted = suburb.wanted[p];
            climbable[p] = suburb.climbable(p);
            pleasedNow[p] = suburb.isPleased(p) ? 1 : 0;
            pleasing[p] = 0;
            for (int t = 0; t < suburb.turrets; t++) {
                if ((suburb.afterClimb(suburb.have[p], t) & wanted) == wanted) {
                    pleasing[p] |= 1 << t;
                }
            }
        }

        private int bestOf(int p, int taken) {
            int most = pleasedNow[p] + best[(p + 1) * TURRET_SETS + taken];
            int free = climbable[p] & ~taken;
            for (int t = 0; t < MOST_TURRETS; t++) {
                if ((free >> t & 1) == 1) {
                    most = Math.max(most, bestWith(p, taken, t));
                }
            }
            return most;
        }

        private int bestWith(int p, int taken, int t) {
            return (pleasing[p] >> t & 1) + best[(p + 1) * TURRET_SETS + (taken | 1 << t)];
        }

        private int firstBest(int p, int taken) {
            int free = climbable[p] & ~taken;
            int most = best[p * TURRET_SETS + taken];
            for (int t = 0; t < MOST_TURRETS; t++) {
                if ((free >> t & 1) == 1 && bestWith(p, taken, t) == most) {
                    return t;
                }
            }
            return NONE;
        }
    }

    /** What PERSONS have behind a TEA; no PERSONS ahead of any. */
    private static final class Tea {
        final int[] have;
        int persons;
        private int down;

        Tea() {
            have = new int[MOST_PERSONS];
            persons = 0;
        }

        int sit(Suburb suburb) {
            persons = suburb.persons;
            down = ((1 << persons) - 1) & ~suburb.upBits();
            System.arraycopy(suburb.have, 0, have, 0, MOST_PERSONS);
            int rounds = 0;
            boolean changed = true;
            while (changed && rounds < MOST_ROUNDS) {
                changed = goRound();
                rounds++;
            }
            return rounds;
        }

        private boolean goRound() {
            boolean changed = false;
            for (int p = 0; p < persons; p++) {
                if ((down >> p & 1) == 1) {
                    int before = have[p];
                    for (int view = 0; view < HALF_ROUND; view++) {
                        listen(p, view);
                    }
                    changed |= have[p] != before;
                }
            }
            return changed;
        }

        private void listen(int p, int view) {
            int more = 0;
            for (int q = 0; q < persons; q++) {
                if (q != p && (down >> q & 1) == 1) {
                    more += (have[q] >> view & 1) - (have[q] >> opposite(view) & 1);
                }
            }
            if (more > 0) {
                have[p] = having(have[p], view);
            } else if (more < 0) {
                have[p] = having(have[p], opposite(view));
            }
        }
    }

    /** DAYS by draws. */
    private static final class Draws {
        private int x;

        int drawDays(Suburb suburb, int n, int seed) {
            x = seed;
            int gone = Math.min(n, suburb.daysLeft());
            for (int i = 0; i < gone; i++) {
                drawOneDay(suburb);
            }
            return gone;
        }

        private int draw(int n) {
            x = x * 1103515245 + 12345;
            return n > 0 ? (x >>> 8) % n : 0;
        }

        private void drawOneDay(Suburb suburb) {
            if (draw(12) == 0) {
                suburb.blow(draw(MOST_NUMBER) + 1);
            }
            for (int p = 0; p < suburb.persons; p++) {
                drawAct(suburb, p);
            }
            suburb.passDay();
        }

        private void drawAct(Suburb suburb, int p) {
            int act = draw(4);
            if (act == 2) {
                suburb.comeDown(p);
            } else if (act == 3) {
                int other = draw(suburb.persons);
                suburb.passOn(p, other, draw(VIEWS));
            } else if (suburb.turrets > 0) {
                suburb.goUp(p, draw(suburb.turrets));
            }
        }
    }
}
