import java.util.NoSuchElementException;

/** A plunge as warm as those in it know each other. Nothing is made once an object stands: its rows are used again. */
public final class ColdPlunge {
    public static final int NONE = -1;

    private static final int TAPE_BYTES = 900;
    private static final int MOST_BATHERS = 6;
    private static final int MOST_COMPANIES = 64;
    private static final int MOST_UNSURE = 4;
    private static final int MOST_FELT = 4;
    private static final int MOST_ACTS = 16;
    private static final int MOST_IMAGES = 3;
    private static final int MOST_MEETINGS = 3;
    private static final int MOST_MORNINGS = 60;
    private static final int MOST_WARMTH = 200;
    private static final int GREATEST_CHILL = 9;
    private static final int GREATEST_LONGING = 9;
    private static final int HUNDRED = 100;
    private static final int SEEDS = 65537;

    private static final int TENDER = 1;
    private static final int HARDY = 2;
    private static final int KIND_SHIFTS_NEED_BY = 5;

    /** Answered where nothing is refused, but there is nothing to tell. */
    private static final int NOTHING = -2;
    /** Answered instead of NONE where NONE would be a good answer. */
    private static final int BELOW_ALL = -100;

    private static final int FINE = 0;
    private static final int NO_SUCH = 1;
    private static final int WRONG_NUMBER = 2;
    private static final int NO_ROOM = 3;
    private static final int FAULTY = 4;
    private static final int NOT_SO = 5;
    private static final int LACKING = 6;

    private static final int FORM = 1;
    private static final int UNTOLD = 2;
    private static final int AGAIN = 3;
    private static final int BOUNDS = 4;
    private static final int MANY = 5;
    private static final int LACKS = 6;

    private final byte[] tape = new byte[TAPE_BYTES];
    private int fed;
    private int refusal;
    private int lastFault;
    private int faultPlace;
    private Told spareText = new Told();
    private final Reader reader = new Reader(spareText);
    private final Bath bath = new Bath(new Told());
    private final History history = new History();
    private final Companies companies = new Companies();
    private final Partition partition = new Partition();
    private final Introductions introductions = new Introductions();
    private final Memory memory = new Memory();
    private final Visitors visitors = new Visitors();

    public ColdPlunge() {
    }

    // ---- the plunge

    public int feed(int a, int b, int c, int d, int e) {
        if (fed + 20 > TAPE_BYTES) {
            return NONE;
        }
        putBytes(a);
        putBytes(b);
        putBytes(c);
        putBytes(d);
        putBytes(e);
        return fed;
    }

    public int plunge(int n) {
        if (n < 0 || n > fed) {
            return refuse(WRONG_NUMBER);
        }
        fed = 0;
        lastFault = reader.readText(tape, n, spareText);
        if (lastFault != 0) {
            faultPlace = reader.place;
            return refuse(FAULTY);
        }
        Told old = bath.told;
        bath.begin(spareText);
        spareText = old;
        history.forget();
        refusal = FINE;
        return bath.told.bathers;
    }

    public int fault() {
        return lastFault;
    }

    public int where() {
        return refusal == FAULTY ? faultPlace : NONE;
    }

    // ---- now

    public int bather(int b, int what) {
        if (!isBather(b)) {
            return NONE;
        }
        switch (what) {
            case 0:
                return bath.told.kinds[b];
            case 1:
                return bath.told.bears[b];
            case 2:
                return bath.told.needOf(b);
            case 3:
                return bath.in >> b & 1;
            case 4:
                return bath.knows[b];
            case 5:
                return bath.foes[b];
            case 6:
                return bath.bearers(bath.in) >> b & 1;
            default:
                return refuse(NO_SUCH);
        }
    }

    public int ties(int b, int other) {
        return areTwo(b, other) ? bath.tie(b, other) : BELOW_ALL;
    }

    public int company() {
        return isTold() ? bath.in : NONE;
    }

    public int warmth(int set) {
        return isCompany(set) ? bath.warmthOf(set) : NONE;
    }

    public int bear(int set) {
        return isCompany(set) ? bath.bearers(set) : NONE;
    }

    public int iced() {
        if (!isTold()) {
            return NONE;
        }
        return bath.isIcy(bath.in) ? 1 : 0;
    }

    public int stays(int set) {
        return isCompany(set) ? bath.leftOf(set) : NONE;
    }

    public int minutes(int set) {
        return isCompany(set) ? bath.minutesOf(set) : NONE;
    }

    public int spare(int set) {
        return isCompany(set) ? bath.warmthOf(set) - bath.needs[set] + MOST_WARMTH : NONE;
    }

    public int closest() {
        return isTold() ? bath.closestTwo() : NONE;
    }

    public int loneliest() {
        return isTold() ? bath.loneliestOne() : NONE;
    }

    public int mates(int b) {
        return isBather(b) ? bath.matesOf(b) : NONE;
    }

    // ---- companies

    public int most() {
        return isTold() ? companies.largestSnug(bath, 0) : NONE;
    }

    public int mostWith(int b) {
        return isBather(b) ? companies.largestSnug(bath, 1 << b) : NONE;
    }

    public int warmest(int many) {
        return isMany(many) ? companies.extreme(bath, many, 1) : NONE;
    }

    public int coldest(int many) {
        return isMany(many) ? companies.extreme(bath, many, -1) : NONE;
    }

    public int bearsWith(int b) {
        return isBather(b) ? companies.fewestOthers(bath, b) : NONE;
    }

    public int spoils(int b) {
        return isBather(b) ? companies.changedBy(bath, b, true) : NONE;
    }

    public int mends(int b) {
        return isBather(b) ? companies.changedBy(bath, b, false) : NONE;
    }

    public int comes(int set) {
        if (!isCompany(set)) {
            return NONE;
        }
        return companies.canComeIn(bath, set) ? 1 : 0;
    }

    public int comesAt(int set, int i) {
        if (!isCompany(set)) {
            return NONE;
        }
        int who = companies.comerAt(bath, set, i);
        return who == NOTHING ? refuse(NO_SUCH) : who;
    }

    public int snugs() {
        return isTold() ? companies.countSnug(bath) : NONE;
    }

    public int toCall() {
        return isTold() ? companies.bestChange(bath, bath.told.all() & ~bath.in) : NONE;
    }

    public int toSend() {
        return isTold() ? companies.bestChange(bath, bath.in) : NONE;
    }

    public int baths() {
        return isTold() ? partition.fewestBaths(bath) : NONE;
    }

    public int bathOf(int b) {
        return isBather(b) ? partition.numberOf(bath, b) : NONE;
    }

    // ---- introductions

    public int canMeet(int b, int other) {
        if (!areTwo(b, other)) {
            return NONE;
        }
        return bath.areStrangers(b, other) && bath.haveFriend(b, other) ? 1 : 0;
    }

    public int meetings() {
        return isTold() ? introductions.countPossible(bath) : NONE;
    }

    public int fewest(int set) {
        return isCompany(set) ? introductions.fewestFor(bath, set) : NONE;
    }

    public int firstMeeting(int set) {
        return isCompany(set) ? introductions.firstFor(bath, set) : NONE;
    }

    public int between(int b, int other) {
        return areTwo(b, other) ? introductions.othersBetween(bath, b, other) : NONE;
    }

    public int circles() {
        return isTold() ? introductions.countCircles(bath) : NONE;
    }

    // ---- what was felt

    public int fits() {
        return isTold() ? Integer.bitCount(memory.fitting(bath.told)) : NONE;
    }

    public int fitAt(int i) {
        if (!isTold()) {
            return NONE;
        }
        int set = memory.fittingAt(bath.told, i);
        return set == NOTHING ? refuse(NO_SUCH) : set;
    }

    public int could() {
        return isTold() ? memory.inSome(bath.told) : NONE;
    }

    public int surely() {
        return isTold() ? memory.inAll(bath.told) : NONE;
    }

    public int ask() {
        return isTold() ? memory.pairToAsk(bath.told) : NONE;
    }

    public int askLeaves() {
        return isTold() ? memory.leftByAsking(bath.told) : NONE;
    }

    public int chills() {
        return isTold() ? memory.possibleChills(bath.told) : NONE;
    }

    public int judge() {
        return isTold() ? memory.firstUntrue(bath.told) : NONE;
    }

    // ---- each for himself

    public int rests() {
        return isTold() ? companies.countRests(bath) : NONE;
    }

    public int restAt(int i) {
        if (!isTold()) {
            return NONE;
        }
        int set = companies.findRest(bath, i);
        return set == NOTHING ? refuse(NO_SUCH) : set;
    }

    public int swim(int longing, boolean one, boolean other, boolean ofOther) {
        if (!isLonging(longing)) {
            return BELOW_ALL;
        }
        return ofOther ? gain(longing, other, one) : gain(longing, one, other);
    }

    public int evens(int longing) {
        if (!isLonging(longing)) {
            return NONE;
        }
        int count = 0;
        for (int pair = 0; pair < 4; pair++) {
            if (isEven(longing, pair)) {
                count++;
            }
        }
        return count;
    }

    public int even(int longing) {
        if (!isLonging(longing)) {
            return NONE;
        }
        for (int pair = 0; pair < 4; pair++) {
            if (isEven(longing, pair)) {
                return 10 * (pair >> 1) + (pair & 1);
            }
        }
        return NOTHING;
    }

    // ---- visitors, mornings

    public long odds(int b, boolean lower) {
        return isBather(b) ? visitors.chanceToBear(bath, b, lower) : NONE;
    }

    public long mean(boolean lower) {
        return isTold() ? visitors.meanWarmth(bath, lower) : NONE;
    }

    public long icy(boolean lower) {
        return isTold() ? visitors.chanceOfIce(bath, lower) : NONE;
    }

    public int mornings(int b, int seed, int n) {
        return isBather(b) && areMornings(seed, n) ? visitors.countStays(bath, b, seed, n) : NONE;
    }

    public int waits(int seed, int n) {
        return isTold() && areMornings(seed, n) ? visitors.countMinutes(bath, seed, n) : NONE;
    }

    // ---- acts

    public int come(int b) {
        return isBather(b) ? turn(b, 0) : NONE;
    }

    public int get(int b) {
        return isBather(b) ? turn(b, 1) : NONE;
    }

    public boolean introduce(int b, int other) {
        if (!areTwo(b, other)) {
            return false;
        }
        if (!bath.areStrangers(b, other)) {
            refusal = NOT_SO;
            return false;
        }
        if (!bath.haveFriend(b, other)) {
            refusal = LACKING;
            return false;
        }
        history.keep(bath);
        bath.settle(bath.in, bath.met | pairBit(b, other), bath.passed);
        return true;
    }

    public int minute() {
        if (!isTold()) {
            return NONE;
        }
        int staying = bath.bearers(bath.in);
        int leaving = bath.in & ~staying;
        if (leaving == 0) {
            return refuse(NOT_SO);
        }
        history.keep(bath);
        bath.settle(staying, bath.met, bath.passed + 1);
        return leaving;
    }

    public boolean undo() {
        refusal = history.stepBack(bath) ? FINE : LACKING;
        return refusal == FINE;
    }

    public int image() {
        if (!isTold()) {
            return NONE;
        }
        int number = history.takeImage(bath);
        return number == NOTHING ? refuse(NO_ROOM) : number;
    }

    public boolean back(int image) {
        refusal = history.goTo(bath, image) ? FINE : NO_SUCH;
        return refusal == FINE;
    }

    // ---- what is told

    public int led(int i) throws NoSuchElementException {
        int bather = bath.freezingAt(i);
        if (bather == NOTHING) {
            throw new NoSuchElementException("no such bather who is in and doesn't bear it");
        }
        return bather;
    }

    public int size(int what) {
        switch (what) {
            case 0:
                return bath.told.warm;
            case 1:
                return bath.told.chill;
            case 2:
                return bath.told.ice;
            case 3:
                return bath.told.visits;
            case 4:
                return bath.told.bathers;
            case 5:
                return pairsIn(bath.knows);
            case 6:
                return pairsIn(bath.foes);
            case 7:
                return bath.told.unsures;
            case 8:
                return bath.told.felts;
            case 9:
                return Integer.bitCount(bath.met);
            case 10:
                return bath.passed;
            case 11:
                return history.kept;
            case 12:
                return history.images;
            case 13:
                return fed;
            default:
                return NONE;
        }
    }

    public int trouble() {
        return refusal;
    }

    // ---- what may be refused

    private int refuse(int number) {
        refusal = number;
        return NONE;
    }

    private boolean isTold() {
        refusal = bath.told.bathers > 0 ? FINE : NO_SUCH;
        return refusal == FINE;
    }

    private boolean isBather(int b) {
        refusal = b >= 0 && b < bath.told.bathers ? FINE : NO_SUCH;
        return refusal == FINE;
    }

    private boolean areTwo(int b, int other) {
        if (isBather(b) && isBather(other) && b == other) {
            refusal = NO_SUCH;
        }
        return refusal == FINE;
    }

    private boolean isCompany(int set) {
        return isNumber(set, bath.told.all());
    }

    private boolean isMany(int many) {
        return isNumber(many, bath.told.bathers);
    }

    private boolean isLonging(int longing) {
        return isNumber(longing, GREATEST_LONGING);
    }

    private boolean areMornings(int seed, int n) {
        return isNumber(seed, SEEDS - 1) && isNumber(n, MOST_MORNINGS);
    }

    private boolean isNumber(int number, int greatest) {
        if (isTold() && (number < 0 || number > greatest)) {
            refusal = WRONG_NUMBER;
        }
        return refusal == FINE;
    }

    // ---- small helpers

    private void putBytes(int four) {
        for (int shift = 24; shift >= 0 && fed < TAPE_BYTES; shift -= 8) {
            tape[fed] = (byte) (four >> shift);
            fed++;
        }
    }

    /** COME and GET are one act in two directions: a bather who is in (1) or out (0) turns. */
    private int turn(int b, int from) {
        if ((bath.in >> b & 1) != from) {
            return refuse(NOT_SO);
        }
        history.keep(bath);
        bath.settle(bath.in ^ 1 << b, bath.met, bath.passed);
        return bath.warmthOf(bath.in);
    }

    private int pairsIn(int[] bitsByBather) {
        int ends = 0;
        for (int b = 0; b < bath.told.bathers; b++) {
            ends += Integer.bitCount(bitsByBather[b]);
        }
        return ends / 2;
    }

    private static int gain(int longing, boolean own, boolean others) {
        if (own) {
            return others ? longing : -2;
        }
        return others ? 1 : 2;
    }

    /** The pairs in their order: bit 1 if the one swims near, bit 0 if the other one does. */
    private static boolean isEven(int longing, int pair) {
        boolean one = (pair & 2) != 0;
        boolean other = (pair & 1) != 0;
        return gain(longing, one, other) >= gain(longing, !one, other)
            && gain(longing, other, one) >= gain(longing, !other, one);
    }

    private static int pairBit(int b, int other) {
        return 1 << Math.min(b, other) * MOST_BATHERS + Math.max(b, other);
    }

    /** What one text tells. One without bathers stands for "no PLUNGE", as no text goes without. */
    private static final class Told {
        int warm;
        int chill;
        int ice;
        int visits;
        int bathers;
        int pairs;
        int unsures;
        int felts;
        final long[] names = new long[MOST_BATHERS];
        final int[] kinds = new int[MOST_BATHERS];
        final int[] bears = new int[MOST_BATHERS];
        final int[] ties = new int[MOST_BATHERS * MOST_BATHERS];
        final int[] unsureOne = new int[MOST_UNSURE];
        final int[] unsureOther = new int[MOST_UNSURE];
        final int[] unsureBy = new int[MOST_UNSURE];
        final int[] feltWarmth = new int[MOST_FELT];
        final int[] feltWith = new int[MOST_FELT];

        void clear() {
            warm = 0;
            chill = 0;
            ice = 0;
            visits = 0;
            bathers = 0;
            pairs = 0;
            unsures = 0;
            felts = 0;
            for (int i = 0; i < ties.length; i++) {
                ties[i] = 0;
            }
        }

        int all() {
            return (1 << bathers) - 1;
        }

        int needOf(int b) {
            if (kinds[b] == TENDER) {
                return bears[b] + KIND_SHIFTS_NEED_BY;
            }
            return kinds[b] == HARDY ? Math.max(0, bears[b] - KIND_SHIFTS_NEED_BY) : bears[b];
        }

        int tieAtFirst(int b, int other) {
            return ties[b * MOST_BATHERS + other];
        }

        /** A tie of 0 tells nothing, but the pair counts as told of (so are unsure ones). */
        void tie(int b, int other, int by) {
            ties[b * MOST_BATHERS + other] = by;
            ties[other * MOST_BATHERS + b] = by;
            pairs |= pairBit(b, other);
        }
    }

    /** The TOKENS of a text, one at a time. */
    private static final class Tokens {
        static final int END = 0;
        static final int WORD = 1;
        static final int WHOLE = 2;
        static final int SIGN = 3;
        static final int BAD = 4;

        private static final int LONGEST_WORD = 8;
        private static final int LONGEST_WHOLE = 3;

        private byte[] text = new byte[0];
        private int end;
        private int after;
        int at;
        int sort;

        void start(byte[] bytes, int n) {
            text = bytes;
            end = Math.min(n, bytes.length);
            after = 0;
            step();
        }

        void step() {
            at = after;
            while (at < end && text[at] == ' ') {
                at++;
            }
            after = at;
            if (at >= end) {
                sort = END;
            } else if (isLetter(text[at])) {
                takeLetters();
            } else if (isDigit(text[at])) {
                takeDigits();
            } else {
                sort = text[at] == ';' || text[at] == ',' ? SIGN : BAD;
                after = at + 1;
            }
        }

        boolean isSign(char sign) {
            return sort == SIGN && at < end && text[at] == sign;
        }

        boolean spells(String word) {
            if (sort != WORD || after - at != word.length()) {
                return false;
            }
            for (int i = at; i < after; i++) {
                if (text[i] != word.charAt(i - at)) {
                    return false;
                }
            }
            return true;
        }

        /** The WORDS that begin a LINE, which are no NAMES. */
        boolean isLineWord() {
            return spells("plunge") || spells("bather") || spells("knows")
                || spells("foes") || spells("unsure") || spells("felt");
        }

        /** A WORD as one number, so that names are kept and compared without texts. */
        long packedWord() {
            long packed = 0;
            for (int i = at; i < after; i++) {
                packed = packed * 32 + (text[i] - 'a' + 1);
            }
            return packed;
        }

        int wholeValue() {
            int value = 0;
            for (int i = at; i < after; i++) {
                value = value * 10 + (text[i] - '0');
            }
            return value;
        }

        /** Letters that stand together are one WORD or, being too many, none at all. */
        private void takeLetters() {
            while (after < end && isLetter(text[after])) {
                after++;
            }
            sort = after - at <= LONGEST_WORD ? WORD : BAD;
        }

        private void takeDigits() {
            while (after < end && isDigit(text[after])) {
                after++;
            }
            sort = after - at <= LONGEST_WHOLE ? WHOLE : BAD;
        }

        private static boolean isLetter(byte sign) {
            return sign >= 'a' && sign <= 'z';
        }

        private static boolean isDigit(byte sign) {
            return sign >= '0' && sign <= '9';
        }
    }

    /** Reads a text token by token, so that the first FAULT from the left is the first that it meets. */
    private static final class Reader {
        private final Tokens tokens = new Tokens();
        private Told told;
        private boolean headTold;
        private int met;
        private int value;
        private int found;
        int place;

        Reader(Told into) {
            told = into;
        }

        int readText(byte[] bytes, int n, Told into) {
            told = into;
            told.clear();
            headTold = false;
            met = 0;
            tokens.start(bytes, n);
            boolean more = true;
            for (int lines = 0; more && lines <= TAPE_BYTES; lines++) {
                more = readLine() && goesOn();
            }
            if (met == 0 && told.bathers == 0) {
                meet(LACKS);
            }
            return met;
        }

        private boolean goesOn() {
            if (tokens.sort == Tokens.END) {
                return false;
            }
            if (!tokens.isSign(';')) {
                return meet(FORM);
            }
            tokens.step();
            return true;
        }

        private boolean meet(int fault) {
            met = fault;
            place = tokens.at;
            return false;
        }

        private boolean readLine() {
            if (!tokens.isLineWord()) {
                return meet(FORM);
            }
            if (tokens.spells("plunge")) {
                return readHead();
            }
            if (!headTold) {
                return meet(LACKS);
            }
            if (tokens.spells("bather")) {
                return readBather();
            }
            return tokens.spells("felt") ? readFelt() : readTie();
        }

        private boolean readHead() {
            if (headTold) {
                return meet(AGAIN);
            }
            headTold = true;
            tokens.step();
            if (!takeWord("warm") || !takeWhole(0, 60)) {
                return false;
            }
            told.warm = value;
            if (!takeWord("chill") || !takeWhole(0, GREATEST_CHILL)) {
                return false;
            }
            told.chill = value;
            if (!takeWord("ice") || !takeWhole(0, 30)) {
                return false;
            }
            told.ice = value;
            if (!takeWord("visits") || !takeWhole(0, HUNDRED)) {
                return false;
            }
            told.visits = value;
            return true;
        }

        private boolean readBather() {
            int b = told.bathers;
            if (b >= MOST_BATHERS) {
                return meet(MANY);
            }
            tokens.step();
            if (tokens.sort != Tokens.WORD || tokens.isLineWord()) {
                return meet(FORM);
            }
            if (numberOfName() >= 0) {
                return meet(AGAIN);
            }
            told.names[b] = tokens.packedWord();
            tokens.step();
            if (!takeKind(b) || !takeWord("bears") || !takeWhole(0, 99)) {
                return false;
            }
            told.bears[b] = value;
            told.bathers = b + 1;
            return true;
        }

        private boolean takeKind(int b) {
            if (tokens.spells("plain")) {
                told.kinds[b] = 0;
            } else if (tokens.spells("tender")) {
                told.kinds[b] = TENDER;
            } else if (tokens.spells("hardy")) {
                told.kinds[b] = HARDY;
            } else {
                return meet(FORM);
            }
            tokens.step();
            return true;
        }

        private boolean readTie() {
            boolean foes = tokens.spells("foes");
            boolean unsure = tokens.spells("unsure");
            if (unsure && told.unsures >= MOST_UNSURE) {
                return meet(MANY);
            }
            tokens.step();
            if (!takeBather(0)) {
                return false;
            }
            int b = found;
            if (!takeBather(1 << b | pairedWith(b))) {
                return false;
            }
            int other = found;
            if (!takeWord("by") || !takeWhole(1, 9)) {
                return false;
            }
            if (unsure) {
                told.tie(b, other, 0);
                keepUnsure(b, other);
            } else {
                told.tie(b, other, foes ? -value : value);
            }
            return true;
        }

        private int pairedWith(int b) {
            int bits = 0;
            for (int other = 0; other < told.bathers; other++) {
                if (other != b && (told.pairs & pairBit(b, other)) != 0) {
                    bits |= 1 << other;
                }
            }
            return bits;
        }

        private void keepUnsure(int b, int other) {
            int i = told.unsures;
            if (i < MOST_UNSURE) {
                told.unsureOne[i] = b;
                told.unsureOther[i] = other;
                told.unsureBy[i] = value;
                told.unsures = i + 1;
            }
        }

        private boolean readFelt() {
            int i = told.felts;
            if (i >= MOST_FELT) {
                return meet(MANY);
            }
            tokens.step();
            if (!takeWhole(0, MOST_WARMTH)) {
                return false;
            }
            told.feltWarmth[i] = value;
            int who = 0;
            for (int many = 0; many <= MOST_BATHERS && tokens.isSign(','); many++) {
                tokens.step();
                if (!takeBather(who)) {
                    return false;
                }
                who |= 1 << found;
            }
            told.feltWith[i] = who;
            told.felts = i + 1;
            return true;
        }

        private boolean takeWord(String word) {
            if (!tokens.spells(word)) {
                return meet(FORM);
            }
            tokens.step();
            return true;
        }

        private boolean takeWhole(int least, int greatest) {
            if (tokens.sort != Tokens.WHOLE) {
                return meet(FORM);
            }
            value = tokens.wholeValue();
            if (value < least || value > greatest) {
                return meet(BOUNDS);
            }
            tokens.step();
            return true;
        }

        /** One of the bathers told, but none of those whose bits are shut out. */
        private boolean takeBather(int shutOut) {
            if (tokens.sort != Tokens.WORD || tokens.isLineWord()) {
                return meet(FORM);
            }
            found = numberOfName();
            if (found < 0) {
                return meet(UNTOLD);
            }
            if ((shutOut >> found & 1) != 0) {
                return meet(AGAIN);
            }
            tokens.step();
            return true;
        }

        private int numberOfName() {
            long name = tokens.packedWord();
            for (int b = 0; b < told.bathers; b++) {
                if (told.names[b] == name) {
                    return b;
                }
            }
            return NONE;
        }
    }

    /** The plunge as it is now. What every company feels is measured once whenever it changes, as most calls look at all. */
    private static final class Bath {
        Told told;
        int in;
        int met;
        int passed;
        final int[] knows = new int[MOST_BATHERS];
        final int[] foes = new int[MOST_BATHERS];
        /** WARMTH before its bounds, which introductions still add to. */
        final int[] boundless = new int[MOST_COMPANIES];
        final int[] needs = new int[MOST_COMPANIES];

        Bath(Told text) {
            told = text;
        }

        void begin(Told text) {
            told = text;
            met = 0;
            measure();
            settle(0, 0, 0);
        }

        void settle(int company, int introduced, int minutesSoFar) {
            in = company;
            passed = minutesSoFar;
            if (introduced != met) {
                met = introduced;
                measure();
            }
        }

        int tie(int b, int other) {
            int first = told.tieAtFirst(b, other);
            return first == 0 && (met & pairBit(b, other)) != 0 ? 1 : first;
        }

        int warmthOf(int set) {
            return Math.max(0, Math.min(MOST_WARMTH, boundless[set]));
        }

        boolean isSnug(int set) {
            return warmthOf(set) >= needs[set];
        }

        boolean isIcy(int set) {
            return warmthOf(set) < told.ice;
        }

        boolean bearsIt(int b, int set) {
            return warmthOf(set) >= told.needOf(b);
        }

        int bearers(int set) {
            int who = 0;
            for (int b = 0; b < told.bathers; b++) {
                if ((set >> b & 1) != 0 && bearsIt(b, set)) {
                    who |= 1 << b;
                }
            }
            return who;
        }

        int leftOf(int set) {
            int left = set;
            for (int minute = 0; minute <= MOST_BATHERS && !isSnug(left); minute++) {
                left = bearers(left);
            }
            return left;
        }

        int minutesOf(int set) {
            int left = set;
            int count = 0;
            while (count <= MOST_BATHERS && !isSnug(left)) {
                left = bearers(left);
                count++;
            }
            return count;
        }

        boolean areStrangers(int b, int other) {
            return ((knows[b] | foes[b]) >> other & 1) == 0;
        }

        boolean haveFriend(int b, int other) {
            return (knows[b] & knows[other]) != 0;
        }

        int closestTwo() {
            int closest = NOTHING;
            int by = 0;
            for (int b = 0; b < told.bathers; b++) {
                for (int other = b + 1; other < told.bathers; other++) {
                    if (tie(b, other) > by) {
                        by = tie(b, other);
                        closest = 10 * b + other;
                    }
                }
            }
            return closest;
        }

        int loneliestOne() {
            int loneliest = 0;
            for (int b = 1; b < told.bathers; b++) {
                if (Integer.bitCount(knows[b]) < Integer.bitCount(knows[loneliest])) {
                    loneliest = b;
                }
            }
            return loneliest;
        }

        int matesOf(int b) {
            int who = 0;
            for (int other = 0; other < told.bathers; other++) {
                if (other != b && bearsIt(b, 1 << b | 1 << other)) {
                    who |= 1 << other;
                }
            }
            return who;
        }

        int freezingAt(int i) {
            int freezing = in & ~bearers(in);
            int passedBy = 0;
            for (int b = 0; b < told.bathers; b++) {
                if ((freezing >> b & 1) != 0) {
                    if (passedBy == i) {
                        return b;
                    }
                    passedBy++;
                }
            }
            return NOTHING;
        }

        private void measure() {
            boundless[0] = told.warm;
            needs[0] = 0;
            for (int b = 0; b < told.bathers; b++) {
                sortTies(b);
                int bit = 1 << b;
                for (int others = 0; others < bit; others++) {
                    boundless[bit | others] = boundless[others] + warmthOfJoining(b, others);
                    needs[bit | others] = Math.max(needs[others], told.needOf(b));
                }
            }
        }

        private void sortTies(int b) {
            knows[b] = 0;
            foes[b] = 0;
            for (int other = 0; other < told.bathers; other++) {
                int tie = other == b ? 0 : tie(b, other);
                if (tie > 0) {
                    knows[b] |= 1 << other;
                } else if (tie < 0) {
                    foes[b] |= 1 << other;
                }
            }
        }

        private int warmthOfJoining(int b, int others) {
            int sum = 0;
            for (int other = 0; other < told.bathers; other++) {
                if ((others >> other & 1) != 0) {
                    int tie = tie(b, other);
                    sum += tie == 0 ? -told.chill : tie;
                }
            }
            return sum;
        }
    }

    /** What can be undone, and the images. Of a moment the company, the pairs introduced and the minutes are all that changes. */
    private static final class History {
        private final int[] keptIn = new int[MOST_ACTS];
        private final int[] keptMet = new int[MOST_ACTS];
        private final int[] keptPassed = new int[MOST_ACTS];
        private final int[] imageIn = new int[MOST_IMAGES];
        private final int[] imageMet = new int[MOST_IMAGES];
        private final int[] imagePassed = new int[MOST_IMAGES];
        private int next;
        int kept;
        int images;

        void forget() {
            kept = 0;
            images = 0;
        }

        void keep(Bath bath) {
            keptIn[next] = bath.in;
            keptMet[next] = bath.met;
            keptPassed[next] = bath.passed;
            next = (next + 1) % MOST_ACTS;
            kept = Math.min(MOST_ACTS, kept + 1);
        }

        boolean stepBack(Bath bath) {
            if (kept == 0) {
                return false;
            }
            kept--;
            next = (next + MOST_ACTS - 1) % MOST_ACTS;
            bath.settle(keptIn[next], keptMet[next], keptPassed[next]);
            return true;
        }

        int takeImage(Bath bath) {
            if (images >= MOST_IMAGES) {
                return NOTHING;
            }
            imageIn[images] = bath.in;
            imageMet[images] = bath.met;
            imagePassed[images] = bath.passed;
            images++;
            return images - 1;
        }

        boolean goTo(Bath bath, int number) {
            if (number < 0 || number >= images) {
                return false;
            }
            bath.settle(imageIn[number], imageMet[number], imagePassed[number]);
            kept = 0;
            return true;
        }
    }

    /** Looks through all companies; the least bits come first, so the first of like ones is kept. */
    private static final class Companies {
        int largestSnug(Bath bath, int with) {
            int best = NOTHING;
            int many = -1;
            for (int set = 0; set <= bath.told.all(); set++) {
                if ((set & with) == with && Integer.bitCount(set) > many && bath.isSnug(set)) {
                    best = set;
                    many = Integer.bitCount(set);
                }
            }
            return best;
        }

        /** The warmest for a sign of 1, the coldest for one of -1. */
        int extreme(Bath bath, int many, int sign) {
            int best = NOTHING;
            for (int set = 0; set <= bath.told.all(); set++) {
                if (Integer.bitCount(set) == many
                    && (best < 0 || sign * bath.warmthOf(set) > sign * bath.warmthOf(best))) {
                    best = set;
                }
            }
            return best;
        }

        int fewestOthers(Bath bath, int b) {
            int best = NOTHING;
            int many = MOST_BATHERS;
            for (int set = 0; set <= bath.told.all(); set++) {
                if ((set >> b & 1) == 0 && Integer.bitCount(set) < many && bath.bearsIt(b, set | 1 << b)) {
                    best = set;
                    many = Integer.bitCount(set);
                }
            }
            return best;
        }

        int changedBy(Bath bath, int b, boolean snugWithout) {
            int count = 0;
            for (int set = 0; set <= bath.told.all(); set++) {
                if ((set >> b & 1) == 0 && bath.isSnug(set) == snugWithout
                    && bath.isSnug(set | 1 << b) != snugWithout) {
                    count++;
                }
            }
            return count;
        }

        int countSnug(Bath bath) {
            int count = 0;
            for (int set = 0; set <= bath.told.all(); set++) {
                if (bath.isSnug(set)) {
                    count++;
                }
            }
            return count;
        }

        boolean canComeIn(Bath bath, int set) {
            return (stepsTo(bath, set) & 1L) != 0;
        }

        int comerAt(Bath bath, int set, int i) {
            long steps = stepsTo(bath, set);
            if ((steps & 1L) == 0 || i < 0 || i >= Integer.bitCount(set)) {
                return NOTHING;
            }
            int inside = 0;
            int comer = NOTHING;
            for (int k = 0; k <= i; k++) {
                comer = nextComer(steps, set, inside);
                if (comer != NOTHING) {
                    inside |= 1 << comer;
                }
            }
            return comer;
        }

        /** One bit for each company from which the whole set can still come in; from the whole set downwards. */
        private long stepsTo(Bath bath, int set) {
            long steps = 0;
            for (int part = set; part >= 0; part--) {
                if ((part & ~set) == 0 && bath.isSnug(part)
                    && (part == set || nextComer(steps, set, part) != NOTHING)) {
                    steps |= 1L << part;
                }
            }
            return steps;
        }

        private int nextComer(long steps, int set, int inside) {
            for (int b = 0; b < MOST_BATHERS; b++) {
                int bit = 1 << b;
                if ((set & ~inside & bit) != 0 && (steps >> (inside | bit) & 1L) != 0) {
                    return b;
                }
            }
            return NOTHING;
        }

        int bestChange(Bath bath, int movers) {
            int best = NOTHING;
            int most = -1;
            for (int b = 0; b < bath.told.bathers; b++) {
                if ((movers >> b & 1) != 0 && bath.warmthOf(bath.in ^ 1 << b) > most) {
                    most = bath.warmthOf(bath.in ^ 1 << b);
                    best = b;
                }
            }
            return best;
        }

        int countRests(Bath bath) {
            int count = 0;
            for (int set = 0; set <= bath.told.all(); set++) {
                if (isRest(bath, set)) {
                    count++;
                }
            }
            return count;
        }

        int findRest(Bath bath, int i) {
            int passedBy = 0;
            for (int set = 0; set <= bath.told.all(); set++) {
                if (isRest(bath, set)) {
                    if (passedBy == i) {
                        return set;
                    }
                    passedBy++;
                }
            }
            return NOTHING;
        }

        private static boolean isRest(Bath bath, int set) {
            if (!bath.isSnug(set)) {
                return false;
            }
            for (int b = 0; b < bath.told.bathers; b++) {
                if ((set >> b & 1) == 0 && bath.bearsIt(b, set | 1 << b)) {
                    return false;
                }
            }
            return true;
        }
    }

    /** BATHS: rows of numbers are tried from the first on, with one company more each time. */
    private static final class Partition {
        private final int[] rows = new int[MOST_BATHERS];

        int fewestBaths(Bath bath) {
            for (int many = 1; many <= bath.told.bathers; many++) {
                for (int k = 0; k < MOST_BATHERS; k++) {
                    rows[k] = 0;
                }
                if (putFrom(bath, rows, 0, 0, many)) {
                    return many;
                }
            }
            return NOTHING;
        }

        int numberOf(Bath bath, int b) {
            int many = fewestBaths(bath);
            for (int k = 0; k < many; k++) {
                if ((rows[k] >> b & 1) != 0) {
                    return k;
                }
            }
            return NOTHING;
        }

        private static boolean putFrom(Bath bath, int[] rows, int b, int used, int many) {
            if (b >= bath.told.bathers) {
                return areSnug(bath, rows, used);
            }
            for (int k = 0; k <= used && k < many && k < rows.length; k++) {
                rows[k] |= 1 << b;
                if (putFrom(bath, rows, b + 1, Math.max(used, k + 1), many)) {
                    return true;
                }
                rows[k] &= ~(1 << b);
            }
            return false;
        }

        private static boolean areSnug(Bath bath, int[] rows, int used) {
            for (int k = 0; k < used && k < rows.length; k++) {
                if (!bath.isSnug(rows[k])) {
                    return false;
                }
            }
            return true;
        }
    }

    /** Who can be introduced, and the fewest rows of introductions, tried on a copy of who knows whom. */
    private static final class Introductions {
        private final int[] known = new int[MOST_BATHERS];
        private int first;

        int countPossible(Bath bath) {
            int count = 0;
            for (int b = 0; b < bath.told.bathers; b++) {
                for (int other = b + 1; other < bath.told.bathers; other++) {
                    if (bath.areStrangers(b, other) && bath.haveFriend(b, other)) {
                        count++;
                    }
                }
            }
            return count;
        }

        int fewestFor(Bath bath, int set) {
            first = NOTHING;
            for (int b = 0; b < bath.told.bathers; b++) {
                known[b] = bath.knows[b];
            }
            for (int many = 0; many <= MOST_MEETINGS; many++) {
                if (isEnough(bath, set, bath.boundless[set], many)) {
                    return many;
                }
            }
            return NOTHING;
        }

        int firstFor(Bath bath, int set) {
            fewestFor(bath, set);
            return first;
        }

        /** Whether just so many introductions more make the set snug; the first of them is kept last, coming out. */
        private boolean isEnough(Bath bath, int set, int warmth, int many) {
            int reach = warmth + many * (bath.told.chill + 1);
            if (many <= 0 || Math.max(0, reach) < bath.needs[set]) {
                return Math.max(0, reach) >= bath.needs[set];
            }
            for (int b = 0; b < bath.told.bathers; b++) {
                for (int other = b + 1; other < bath.told.bathers; other++) {
                    if (canBeIntroduced(bath, b, other)
                        && isEnoughWith(bath, set, warmth, many, 10 * b + other)) {
                        first = 10 * b + other;
                        return true;
                    }
                }
            }
            return false;
        }

        private boolean isEnoughWith(Bath bath, int set, int warmth, int many, int pair) {
            int b = pair / 10;
            int other = pair % 10;
            boolean inside = (set >> b & set >> other & 1) != 0;
            toggle(b, other);
            boolean enough = isEnough(bath, set, inside ? warmth + bath.told.chill + 1 : warmth, many - 1);
            toggle(b, other);
            return enough;
        }

        private void toggle(int b, int other) {
            known[b] ^= 1 << other;
            known[other] ^= 1 << b;
        }

        private boolean canBeIntroduced(Bath bath, int b, int other) {
            return ((known[b] | bath.foes[b]) >> other & 1) == 0 && (known[b] & known[other]) != 0;
        }

        int othersBetween(Bath bath, int b, int other) {
            int reached = 1 << b;
            for (int over = 0; over < bath.told.bathers; over++) {
                reached = widen(bath, reached);
                if ((reached >> other & 1) != 0) {
                    return over;
                }
            }
            return NOTHING;
        }

        int countCircles(Bath bath) {
            int seen = 0;
            int count = 0;
            for (int b = 0; b < bath.told.bathers; b++) {
                if ((seen >> b & 1) == 0) {
                    count++;
                    seen |= circleOf(bath, b);
                }
            }
            return count;
        }

        private static int circleOf(Bath bath, int b) {
            int circle = 1 << b;
            for (int step = 0; step < bath.told.bathers; step++) {
                circle = widen(bath, circle);
            }
            return circle;
        }

        private static int widen(Bath bath, int reached) {
            int wider = reached;
            for (int b = 0; b < bath.told.bathers; b++) {
                if ((reached >> b & 1) != 0) {
                    wider |= bath.knows[b];
                }
            }
            return wider;
        }
    }

    /** What was felt is of the time of the text: all here goes by what was told at first. */
    private static final class Memory {
        /** One bit for each set of unsure pairs that fits. */
        int fitting(Told told) {
            int fitting = 0;
            for (int known = 0; known < 1 << told.unsures; known++) {
                if (firstUntrueBy(told, known, told.chill) == NOTHING) {
                    fitting |= 1 << known;
                }
            }
            return fitting;
        }

        int fittingAt(Told told, int i) {
            int fitting = fitting(told);
            int passedBy = 0;
            for (int known = 0; known < 1 << told.unsures; known++) {
                if ((fitting >> known & 1) != 0) {
                    if (passedBy == i) {
                        return known;
                    }
                    passedBy++;
                }
            }
            return NOTHING;
        }

        int inSome(Told told) {
            int fitting = fitting(told);
            int pairs = 0;
            for (int pair = 0; pair < told.unsures; pair++) {
                if (countWith(told, fitting, pair) > 0) {
                    pairs |= 1 << pair;
                }
            }
            return pairs;
        }

        int inAll(Told told) {
            int fitting = fitting(told);
            int many = Integer.bitCount(fitting);
            int pairs = 0;
            for (int pair = 0; pair < told.unsures; pair++) {
                if (many > 0 && countWith(told, fitting, pair) == many) {
                    pairs |= 1 << pair;
                }
            }
            return pairs;
        }

        int pairToAsk(Told told) {
            int fitting = fitting(told);
            int best = NOTHING;
            for (int pair = 0; pair < told.unsures && fitting != 0; pair++) {
                if (best < 0 || leftAtMost(told, fitting, pair) < leftAtMost(told, fitting, best)) {
                    best = pair;
                }
            }
            return best;
        }

        int leftByAsking(Told told) {
            int pair = pairToAsk(told);
            return pair < 0 ? NOTHING : leftAtMost(told, fitting(told), pair);
        }

        int possibleChills(Told told) {
            int chills = 0;
            for (int chill = 0; chill <= GREATEST_CHILL; chill++) {
                if (firstUntrueBy(told, 0, chill) == NOTHING) {
                    chills |= 1 << chill;
                }
            }
            return chills;
        }

        int firstUntrue(Told told) {
            return firstUntrueBy(told, 0, told.chill);
        }

        private static int leftAtMost(Told told, int fitting, int pair) {
            int with = countWith(told, fitting, pair);
            return Math.max(with, Integer.bitCount(fitting) - with);
        }

        private static int countWith(Told told, int fitting, int pair) {
            int count = 0;
            for (int known = 0; known < 1 << told.unsures; known++) {
                if ((fitting >> known & known >> pair & 1) != 0) {
                    count++;
                }
            }
            return count;
        }

        private static int firstUntrueBy(Told told, int known, int chill) {
            for (int i = 0; i < told.felts; i++) {
                if (warmthBy(told, told.feltWith[i], known, chill) != told.feltWarmth[i]) {
                    return i;
                }
            }
            return NOTHING;
        }

        private static int warmthBy(Told told, int set, int known, int chill) {
            int sum = told.warm;
            for (int b = 0; b < told.bathers; b++) {
                for (int other = b + 1; other < told.bathers; other++) {
                    if ((set >> b & set >> other & 1) != 0) {
                        int tie = told.tieAtFirst(b, other);
                        sum += tie == 0 ? -chill : tie;
                    }
                }
            }
            for (int pair = 0; pair < told.unsures; pair++) {
                if ((known >> pair & set >> told.unsureOne[pair] & set >> told.unsureOther[pair] & 1) != 0) {
                    sum += chill + told.unsureBy[pair];
                }
            }
            return Math.max(0, Math.min(MOST_WARMTH, sum));
        }
    }

    /** Chances are counted in hundredths to the power of those who may come: 10 to the 12th, and 200 times that, at most. */
    private static final class Visitors {
        private int seed;

        long chanceToBear(Bath bath, int b, boolean lower) {
            int others = bath.told.all() & ~(1 << b);
            long sum = 0;
            for (int set = 0; set <= others; set++) {
                if ((set & ~others) == 0 && bath.bearsIt(b, set | 1 << b)) {
                    sum += weight(bath.told, set, others);
                }
            }
            return inLowestTerms(sum, wholeWeight(others), lower);
        }

        long meanWarmth(Bath bath, boolean lower) {
            int all = bath.told.all();
            long sum = 0;
            for (int set = 0; set <= all; set++) {
                sum += bath.warmthOf(set) * weight(bath.told, set, all);
            }
            return inLowestTerms(sum, wholeWeight(all), lower);
        }

        long chanceOfIce(Bath bath, boolean lower) {
            int all = bath.told.all();
            long sum = 0;
            for (int set = 0; set <= all; set++) {
                if (bath.isIcy(set)) {
                    sum += weight(bath.told, set, all);
                }
            }
            return inLowestTerms(sum, wholeWeight(all), lower);
        }

        int countStays(Bath bath, int b, int firstSeed, int n) {
            seed = firstSeed;
            int count = 0;
            for (int morning = 0; morning < n; morning++) {
                count += bath.leftOf(drawCompany(bath.told)) >> b & 1;
            }
            return count;
        }

        int countMinutes(Bath bath, int firstSeed, int n) {
            seed = firstSeed;
            int count = 0;
            for (int morning = 0; morning < n; morning++) {
                count += bath.minutesOf(drawCompany(bath.told));
            }
            return count;
        }

        private int drawCompany(Told told) {
            int set = 0;
            for (int b = 0; b < told.bathers; b++) {
                seed = (75 * seed + 74) % SEEDS;
                if (seed % HUNDRED < told.visits) {
                    set |= 1 << b;
                }
            }
            return set;
        }

        private static long weight(Told told, int set, int among) {
            long product = 1;
            for (int b = 0; b < told.bathers; b++) {
                if ((among >> b & 1) != 0) {
                    product *= (set >> b & 1) != 0 ? told.visits : HUNDRED - told.visits;
                }
            }
            return product;
        }

        private static long wholeWeight(int among) {
            long product = 1;
            for (int i = 0; i < Integer.bitCount(among); i++) {
                product *= HUNDRED;
            }
            return product;
        }

        private static long inLowestTerms(long upper, long below, boolean lower) {
            long divisor = commonDivisor(upper, below);
            if (divisor <= 0) {
                return lower ? below : upper;
            }
            return lower ? below / divisor : upper / divisor;
        }

        private static long commonDivisor(long one, long other) {
            long greater = one;
            long lesser = other;
            for (int step = 0; step < 1000 && lesser != 0; step++) {
                long rest = greater % lesser;
                greater = lesser;
                lesser = rest;
            }
            return greater;
        }
    }
}
