import java.util.Arrays;

/**
 * People who earn and write what they think they must, and a house that looks at some of them:
 * those that smell and those drawn by lot. ../shared/DOC.md says what every call answers.
 */
public final class LotHouse {
    public static final int NONE = -1;

    /** Says "there is none" where an answer may well be below 0. */
    private static final int NO_NUMBER = -1000000;

    private static final int MOST_BYTES = 1600;
    private static final int FED_BYTES = 20;
    private static final int MOST_KINDS = 4;
    private static final int MOST_PERSONS = 16;
    private static final int MOST_YEARS = 30;
    private static final int BOXES = 3;
    private static final int MOST_BELIEF = 9;
    private static final int FIRST_BELIEF = 5;
    private static final int ALL_DEPTH = 10;
    private static final int WRONG_COIN = 10;
    private static final int SIGN_BITS = 4;
    private static final int OUT_OF_HEARING = 99;
    private static final int MOST_SHARE = 10;
    private static final int BEST_LOOKS = 6;
    private static final int BEST_YEARS = 3;

    private final Tape tape = new Tape();
    private final Tokens tokens = new Tokens();
    private final Land land = new Land();
    private final Land spare = new Land();
    private final Reader reader = new Reader(tokens, spare);
    private final House now = new House(land, MOST_YEARS);
    private final Plans plans = new Plans(now);
    private final House[] boxes = new House[BOXES];
    private final boolean[] kept = new boolean[BOXES];
    private final Cash cash = new Cash(land);
    private final Study study = new Study();
    private final Fraction fraction = new Fraction();

    public LotHouse() {
        for (int box = 0; box < BOXES; box++) {
            boxes[box] = new House(land, MOST_YEARS);
        }
        now.begin();
    }

    public int feed(int a, int b, int c, int d, int e) {
        if (tape.length + FED_BYTES > MOST_BYTES) {
            return NONE;
        }
        tape.put(a);
        tape.put(b);
        tape.put(c);
        tape.put(d);
        tape.put(e);
        return tape.length;
    }

    public int end(int n) {
        if (n < 0 || n > tape.length) {
            return NONE;
        }
        tape.length = n;
        return n;
    }

    public int land() {
        tokens.scan(tape);
        if (!reader.read(spare)) {
            return NONE;
        }
        // A text that read well once does so again: the LAND in use is touched only behind that.
        reader.read(land);
        tape.length = 0;
        now.begin();
        for (int box = 0; box < BOXES; box++) {
            kept[box] = false;
        }
        return land.persons;
    }

    public int fault(int what) {
        switch (what) {
            case 0: return reader.fault;
            case 1: return reader.place;
            default: return NONE;
        }
    }

    public int person(int person, int what) {
        if (!land.hasPerson(person)) {
            return NONE;
        }
        switch (what) {
            case 0: return now.believes[person];
            case 1: return now.wrote[person];
            case 2: return now.paid[person];
            case 3: return now.looks[person];
            case 4: return now.wrongs[person];
            case 5: return now.wouldWrite(person);
            default: return NONE;
        }
    }

    public int score(int person) {
        if (!land.hasPerson(person)) {
            return NONE;
        }
        now.rank();
        return now.scores[person];
    }

    public int year(boolean match, int smelt, int lot, int letters) {
        if (now.count >= MOST_YEARS || !areThere(smelt, lot, letters)) {
            return NONE;
        }
        return now.passYear(match, smelt, lot, letters);
    }

    private boolean areThere(int smelt, int lot, int letters) {
        int most = land.persons;
        if (smelt < 0 || lot < 0 || letters < 0) {
            return false;
        }
        // Each alone first, so that the three together can't wrap.
        return smelt <= most && lot <= most && letters <= most && smelt + lot + letters <= most;
    }

    public int sum(int year, int what) {
        if (!now.hasYear(year)) {
            return NONE;
        }
        Year told = now.years[year - 1];
        switch (what) {
            case 0: return told.coin();
            case 1: return land.earned() - told.coin();
            case 2: return told.foundSmelt;
            case 3: return told.foundLot;
            case 4: return told.matched;
            case 5: return told.wrongs;
            default: return NONE;
        }
    }

    public int estimate(int year, int part) {
        if (!now.hasYear(year) || !takeEstimate(now.years[year - 1])) {
            return NONE;
        }
        return fraction.part(part, NONE);
    }

    private boolean takeEstimate(Year told) {
        if (told.lots == 0) {
            return false;
        }
        fraction.take(told.foundLot * land.persons + told.foundSmelt * told.lots, told.lots);
        return true;
    }

    public int blind() {
        int there = 0;
        int seen = 0;
        for (int person = 0; person < land.persons; person++) {
            int row = 1 << land.signs[person];
            there |= row;
            if (now.looks[person] > 0) {
                seen |= row;
            }
        }
        return Integer.bitCount(there & ~seen);
    }

    public int kind(int kind, int what) {
        if (!land.hasKind(kind)) {
            return NONE;
        }
        switch (what) {
            case 0: return land.personsOf(kind);
            case 1: return land.total(now.looks, kind);
            case 2: return land.total(now.found, kind);
            case 3: return land.total(land.earns, kind) - land.total(now.paid, kind);
            default: return NONE;
        }
    }

    public int fairest() {
        if (land.persons == 0) {
            return NONE;
        }
        int most = 0;
        int least = NONE;
        for (int kind = 0; kind < land.kinds; kind++) {
            int persons = land.personsOf(kind);
            if (persons > 0) {
                int share = land.total(now.looks, kind) * 1000 / persons;
                most = Math.max(most, share);
                least = least == NONE ? share : Math.min(least, share);
            }
        }
        return most - least;
    }

    public int hears(int a, int b) {
        if (!land.hasPerson(a) || !land.hasPerson(b)) {
            return NONE;
        }
        return land.steps(a, b);
    }

    public int did(int year, int part) {
        if (!study.take(now, year)) {
            return NO_NUMBER;
        }
        study.effect(fraction);
        return fraction.part(part, NO_NUMBER);
    }

    public int luck(int year, int part) {
        if (!study.take(now, year)) {
            return NONE;
        }
        study.chance(fraction);
        return fraction.part(part, NONE);
    }

    public int goes(int persons, int h, int what) {
        if (persons < 1 || persons >= 1 << land.persons || !isShare(h)) {
            return NONE;
        }
        cash.spread(persons, h);
        switch (what) {
            case 0: return cash.rounds;
            case 1: return Integer.bitCount(cash.gone);
            default: return NONE;
        }
    }

    public int first(int h, int what) {
        if (land.persons == 0 || !isShare(h)) {
            return NONE;
        }
        int leader = cash.leader(h);
        cash.spread(1 << leader, h);
        switch (what) {
            case 0: return leader;
            case 1: return Integer.bitCount(cash.gone);
            default: return NONE;
        }
    }

    private static boolean isShare(int h) {
        return h >= 1 && h <= MOST_SHARE;
    }

    public int owed(int kind) {
        if (!land.hasKind(kind)) {
            return NONE;
        }
        return WRONG_COIN * land.total(now.wrongs, kind);
    }

    public int line(boolean high) {
        int outermost = NONE;
        for (int i = 0; i < now.count; i++) {
            if (takeEstimate(now.years[i])) {
                int cut = fraction.cut();
                boolean further = high ? cut > outermost : cut < outermost;
                if (outermost == NONE || further) {
                    outermost = cut;
                }
            }
        }
        return outermost;
    }

    public int worth(int person) {
        if (!land.hasPerson(person) || now.count == 0) {
            return NO_NUMBER;
        }
        return plans.lookAt(person);
    }

    public int best(int looks, int years, int what) {
        if (looks < 0 || looks > BEST_LOOKS || looks > land.persons) {
            return NONE;
        }
        if (years < 1 || years > BEST_YEARS) {
            return NONE;
        }
        plans.mix(looks, years);
        switch (what) {
            case 0: return plans.bestSmelt;
            case 1: return plans.bestCoin;
            default: return NONE;
        }
    }

    public int known(boolean lot, int n) {
        if (!canRule(n)) {
            return NONE;
        }
        return lot ? plans.knownLot(n) : plans.knownSmelt(n);
    }

    public int game(int n) {
        if (!canRule(n)) {
            return NONE;
        }
        return plans.knownSmelt(n) > plans.knownLot(n) ? 0 : 1;
    }

    private boolean canRule(int n) {
        return land.persons > 0 && n >= 0 && n <= land.persons;
    }

    public int smelt(int i) {
        if (i < 0 || i >= land.persons) {
            return NONE;
        }
        now.rank();
        return now.ranked[i];
    }

    public int image(int box) {
        if (!isBox(box)) {
            return NONE;
        }
        boxes[box].takeAll(now);
        kept[box] = true;
        return now.count;
    }

    public int back(int box) {
        if (!isBox(box) || !kept[box]) {
            return NONE;
        }
        now.takeAll(boxes[box]);
        return now.count;
    }

    private static boolean isBox(int box) {
        return box >= 0 && box < BOXES;
    }

    public int seed(int w) {
        int before = now.w;
        now.w = w;
        return before;
    }

    public int about(int what) {
        switch (what) {
            case 0: return land.kinds;
            case 1: return land.persons;
            case 2: return now.count;
            case 3: return now.w;
            case 4: return tape.length;
            case 5: return land.depth;
            case 6: return land.wrong;
            case 7: return land.units;
            default: return NONE;
        }
    }

    /** The bytes that have come and are no LAND yet. */
    private static final class Tape {
        final byte[] bytes = new byte[MOST_BYTES];
        int length;

        void put(int four) {
            for (int shift = 24; shift >= 0; shift -= 8) {
                if (length < MOST_BYTES) {
                    bytes[length] = (byte) (four >>> shift);
                    length++;
                }
            }
        }

        /** The byte there, or one that is part of no TOKEN where the text is at its end. */
        int byteAt(int at) {
            return at >= 0 && at < length ? bytes[at] : 0;
        }
    }

    /** The TOKENS of a TAPE, up to the first place where there is none. */
    private static final class Tokens {
        /** The words that stand for themselves: a word's place among them is its sort. */
        static final String OWN_WORDS =
            "kind person earns paper signs near ways depth wrong teach found clean heard letter belief last year ";
        static final int KIND = 0;
        static final int PERSON = 1;
        static final int EARNS = 2;
        static final int PAPER = 3;
        static final int SIGNS = 4;
        static final int NEAR = 5;
        static final int WAYS = 6;
        static final int DEPTH = 7;
        static final int WRONG = 8;
        static final int TEACH = 9;
        static final int FOUND = 10;
        static final int CLEAN = 11;
        static final int HEARD = 12;
        static final int LETTER = 13;
        static final int BELIEF = 14;
        static final int LAST = 15;
        static final int YEAR = 16;
        static final int OWN_COUNT = 17;
        static final int NAME = 17;
        static final int NUMBER = 18;
        static final int END = -1;
        static final int NO_TOKEN = -2;

        static final int MOST_LETTERS = 8;
        static final int MOST_DIGITS = 4;
        static final int BLANK = 32;
        static final int NEW_LINE = 10;

        /** Of each TOKEN its sort (a sign's is its own byte), its place, its number or packed word. */
        final int[] sort = new int[MOST_BYTES + 1];
        final int[] place = new int[MOST_BYTES + 1];
        final long[] value = new long[MOST_BYTES + 1];
        private final long[] ownWords = new long[OWN_COUNT];
        private int count;

        Tokens() {
            int word = 0;
            long packed = 0;
            for (int i = 0; i < OWN_WORDS.length(); i++) {
                char letter = OWN_WORDS.charAt(i);
                if (letter == BLANK && word < OWN_COUNT) {
                    ownWords[word] = packed;
                    word++;
                    packed = 0;
                } else {
                    packed = pack(packed, letter);
                }
            }
        }

        void scan(Tape tape) {
            count = 0;
            int at = 0;
            for (int turn = 0; turn < MOST_BYTES && at < tape.length; turn++) {
                int here = tape.byteAt(at);
                if (here == BLANK || here == NEW_LINE) {
                    at++;
                } else {
                    int behind = scanOne(tape, at, here);
                    if (behind == at) {
                        add(NO_TOKEN, at, 0);
                        return;
                    }
                    at = behind;
                }
            }
            add(END, tape.length, 0);
        }

        /** The place behind the TOKEN there; the same place if there is none. */
        private int scanOne(Tape tape, int at, int here) {
            if (isLetter(here)) {
                return scanWord(tape, at);
            }
            if (isDigit(here)) {
                return scanNumber(tape, at);
            }
            if (!isSign(here)) {
                return at;
            }
            add(here, at, 0);
            return at + 1;
        }

        private int scanWord(Tape tape, int from) {
            int at = from;
            long packed = 0;
            for (; at < tape.length && isLetter(tape.byteAt(at)); at++) {
                packed = pack(packed, tape.byteAt(at));
            }
            if (at - from > MOST_LETTERS) {
                return from;
            }
            add(sortOf(packed), from, packed);
            return at;
        }

        private int scanNumber(Tape tape, int from) {
            int at = from;
            int number = 0;
            for (; at < tape.length && isDigit(tape.byteAt(at)); at++) {
                number = number * 10 + tape.byteAt(at) - '0';
            }
            if (at - from > MOST_DIGITS || isLetter(tape.byteAt(at))) {
                return from;
            }
            add(NUMBER, from, number);
            return at;
        }

        private void add(int itsSort, int itsPlace, long itsValue) {
            if (count <= MOST_BYTES) {
                sort[count] = itsSort;
                place[count] = itsPlace;
                value[count] = itsValue;
                count++;
            }
        }

        private int sortOf(long packed) {
            for (int word = 0; word < OWN_COUNT; word++) {
                if (ownWords[word] == packed) {
                    return word;
                }
            }
            return NAME;
        }

        /** Five bits a letter, none of them 0: words of up to 8 letters are alike only if they are the same. */
        private static long pack(long packed, int letter) {
            return packed * 32 + (letter - 'a' + 1);
        }

        private static boolean isLetter(int here) {
            return here >= 'a' && here <= 'z';
        }

        private static boolean isDigit(int here) {
            return here >= '0' && here <= '9';
        }

        private static boolean isSign(int here) {
            switch (here) {
                case ';':
                case '(':
                case ')':
                case '+':
                case '-':
                case '*':
                case '/':
                    return true;
                default:
                    return false;
            }
        }
    }

    /** Reads TOKENS into a LAND, up to the first FAULT. */
    private static final class Reader {
        static final int NO_TOKEN = 1;
        static final int CANT_STAND = 2;
        static final int TOLD_ALREADY = 3;
        static final int CANT_BE = 4;
        static final int NOT_TOLD = 5;

        static final int MOST_EARNS = 999;
        static final int MOST_SIGNS = 15;
        static final int MOST_WRONG = 10;
        static final int MOST_TEACH = 9;
        static final int MOST_UNITS = 40;
        static final int MOST_WITHIN = 6;

        int fault;
        int place = NONE;
        private final Tokens tokens;
        private Land land;
        private int at;
        private boolean depthTold;
        private boolean teachTold;

        Reader(Tokens tokens, Land land) {
            this.tokens = tokens;
            this.land = land;
        }

        boolean read(Land into) {
            land = into;
            land.clear();
            at = 0;
            depthTold = false;
            teachTold = false;
            fault = 0;
            place = NONE;
            boolean well = true;
            for (int turn = 0; turn < MOST_BYTES && well && sort() != Tokens.END; turn++) {
                switch (sort()) {
                    case Tokens.KIND: well = readKind(); break;
                    case Tokens.PERSON: well = readPerson(); break;
                    case Tokens.WAYS: well = readWays(); break;
                    case Tokens.DEPTH: well = readDepth(); break;
                    case Tokens.TEACH: well = readTeach(); break;
                    default: well = fail(CANT_STAND); break;
                }
            }
            return well;
        }

        private boolean readKind() {
            if (land.kinds >= MOST_KINDS) {
                return fail(CANT_STAND);
            }
            at++;
            if (!isName()) {
                return fail(CANT_STAND);
            }
            if (land.kindNamed(value()) != NONE) {
                return fail(TOLD_ALREADY);
            }
            land.kindNames[land.kinds] = value();
            land.kinds++;
            at++;
            return takes(';');
        }

        private boolean readPerson() {
            int person = land.persons;
            if (person >= MOST_PERSONS) {
                return fail(CANT_STAND);
            }
            at++;
            if (!isName()) {
                return fail(CANT_STAND);
            }
            if (land.personNamed(value()) != NONE) {
                return fail(TOLD_ALREADY);
            }
            land.personNames[person] = value();
            at++;
            if (!readTraits(person)) {
                return false;
            }
            if (sort() == Tokens.NEAR && !readNeighbours(person)) {
                return false;
            }
            // Only now, so that nobody is told ahead of its own neighbours.
            land.persons++;
            return takes(';');
        }

        private boolean readTraits(int person) {
            if (!takes(Tokens.KIND)) {
                return false;
            }
            int kind = kindHere();
            if (kind == NONE) {
                return false;
            }
            at++;
            int earns = numberBehind(Tokens.EARNS, MOST_EARNS);
            if (earns == NONE) {
                return false;
            }
            int paper = numberBehind(Tokens.PAPER, earns);
            if (paper == NONE) {
                return false;
            }
            int signs = numberBehind(Tokens.SIGNS, MOST_SIGNS);
            if (signs == NONE) {
                return false;
            }
            land.kindOf[person] = kind;
            land.earns[person] = earns;
            land.paper[person] = paper;
            land.signs[person] = signs;
            return true;
        }

        private boolean readNeighbours(int person) {
            at++;
            if (!isName()) {
                return fail(CANT_STAND);
            }
            for (int turn = 0; turn <= MOST_PERSONS && isName(); turn++) {
                int other = land.personNamed(value());
                if (other == NONE) {
                    return fail(NOT_TOLD);
                }
                if (land.areNear(person, other)) {
                    return fail(TOLD_ALREADY);
                }
                land.near[person] |= 1 << other;
                land.near[other] |= 1 << person;
                at++;
            }
            return true;
        }

        private boolean readWays() {
            at++;
            int kind = kindHere();
            if (kind == NONE) {
                return false;
            }
            if (land.ways.areTold(kind)) {
                return fail(TOLD_ALREADY);
            }
            at++;
            land.ways.open(kind);
            if (!readSum(0)) {
                return false;
            }
            land.ways.close(kind);
            return takes(';');
        }

        /** The KIND whose NAME stands here (not taken yet), NONE at a FAULT. */
        private int kindHere() {
            if (!isName()) {
                fail(CANT_STAND);
                return NONE;
            }
            int kind = land.kindNamed(value());
            if (kind == NONE) {
                fail(NOT_TOLD);
            }
            return kind;
        }

        /** An e that stands within so many units ( e ). */
        private boolean readSum(int within) {
            if (!readTerm(within)) {
                return false;
            }
            for (int turn = 0; turn < MOST_UNITS && (sort() == '+' || sort() == '-'); turn++) {
                int sign = sort();
                at++;
                if (!readTerm(within)) {
                    return false;
                }
                land.ways.add(sign, 0);
            }
            return true;
        }

        private boolean readTerm(int within) {
            if (!readUnit(within)) {
                return false;
            }
            for (int turn = 0; turn < MOST_UNITS && (sort() == '*' || sort() == '/'); turn++) {
                int sign = sort();
                at++;
                if (!(sign == '*' ? readUnit(within) : readDivisor())) {
                    return false;
                }
                land.ways.add(sign, 0);
            }
            return true;
        }

        private boolean readUnit(int within) {
            int sort = sort();
            if (!isUnit(sort) || land.units >= MOST_UNITS || sort == '(' && within > MOST_WITHIN) {
                return fail(CANT_STAND);
            }
            land.units++;
            if (sort == '(') {
                at++;
                return readSum(within + 1) && takes(')');
            }
            land.ways.add(sort, (int) value());
            at++;
            return true;
        }

        private boolean readDivisor() {
            if (sort() != Tokens.NUMBER || land.units >= MOST_UNITS) {
                return fail(CANT_STAND);
            }
            if (value() == 0) {
                return fail(CANT_BE);
            }
            land.units++;
            land.ways.add(Tokens.NUMBER, (int) value());
            at++;
            return true;
        }

        private static boolean isUnit(int sort) {
            switch (sort) {
                case Tokens.NUMBER:
                case Tokens.EARNS:
                case Tokens.PAPER:
                case Tokens.BELIEF:
                case Tokens.LAST:
                case Tokens.YEAR:
                case '(':
                    return true;
                default:
                    return false;
            }
        }

        private boolean readDepth() {
            if (depthTold) {
                return fail(CANT_STAND);
            }
            depthTold = true;
            land.depth = numberBehind(Tokens.DEPTH, ALL_DEPTH);
            if (land.depth == NONE) {
                return false;
            }
            land.wrong = numberBehind(Tokens.WRONG, MOST_WRONG);
            return land.wrong != NONE && takes(';');
        }

        private boolean readTeach() {
            if (teachTold) {
                return fail(CANT_STAND);
            }
            teachTold = true;
            at++;
            land.teachFound = numberBehind(Tokens.FOUND, MOST_TEACH);
            if (land.teachFound == NONE) {
                return false;
            }
            land.teachClean = numberBehind(Tokens.CLEAN, MOST_TEACH);
            if (land.teachClean == NONE) {
                return false;
            }
            land.teachHeard = numberBehind(Tokens.HEARD, MOST_TEACH);
            if (land.teachHeard == NONE) {
                return false;
            }
            land.teachLetter = numberBehind(Tokens.LETTER, MOST_TEACH);
            return land.teachLetter != NONE && takes(';');
        }

        /** The number behind a word, NONE at a FAULT. */
        private int numberBehind(int word, int most) {
            if (!takes(word)) {
                return NONE;
            }
            if (sort() != Tokens.NUMBER) {
                fail(CANT_STAND);
                return NONE;
            }
            int number = (int) value();
            if (number > most) {
                fail(CANT_BE);
                return NONE;
            }
            at++;
            return number;
        }

        private boolean takes(int sort) {
            if (sort() != sort) {
                return fail(CANT_STAND);
            }
            at++;
            return true;
        }

        private boolean isName() {
            return sort() == Tokens.NAME;
        }

        /** Nothing is taken at the end or where no TOKEN is: at never comes behind the last one's row. */
        private int sort() {
            return at < tokens.sort.length ? tokens.sort[at] : Tokens.END;
        }

        private long value() {
            return at < tokens.value.length ? tokens.value[at] : 0;
        }

        private boolean fail(int itsFault) {
            boolean none = at < tokens.sort.length && tokens.sort[at] == Tokens.NO_TOKEN;
            fault = none ? NO_TOKEN : itsFault;
            place = at < tokens.place.length ? tokens.place[at] : MOST_BYTES;
            return false;
        }
    }

    /** What a text told: KINDS, PERSONS, their ways, and how LOOKS work. */
    private static final class Land {
        final long[] kindNames = new long[MOST_KINDS];
        final long[] personNames = new long[MOST_PERSONS];
        final int[] kindOf = new int[MOST_PERSONS];
        final int[] earns = new int[MOST_PERSONS];
        final int[] paper = new int[MOST_PERSONS];
        final int[] signs = new int[MOST_PERSONS];
        /** Of each PERSON its neighbours as bits. */
        final int[] near = new int[MOST_PERSONS];
        final Ways ways = new Ways();
        int kinds;
        int persons;
        int units;
        int depth = ALL_DEPTH;
        int wrong;
        int teachFound = 1;
        int teachClean = 1;
        int teachHeard;
        int teachLetter = 1;

        void clear() {
            Arrays.fill(near, 0);
            ways.clear();
            kinds = 0;
            persons = 0;
            units = 0;
            depth = ALL_DEPTH;
            wrong = 0;
            teachFound = 1;
            teachClean = 1;
            teachHeard = 0;
            teachLetter = 1;
        }

        int kindNamed(long name) {
            return placeOf(name, kindNames, kinds);
        }

        int personNamed(long name) {
            return placeOf(name, personNames, persons);
        }

        private static int placeOf(long name, long[] names, int count) {
            for (int i = 0; i < count; i++) {
                if (names[i] == name) {
                    return i;
                }
            }
            return NONE;
        }

        boolean hasKind(int kind) {
            return kind >= 0 && kind < kinds;
        }

        boolean hasPerson(int person) {
            return person >= 0 && person < persons;
        }

        boolean areNear(int a, int b) {
            return (near[a] >> b & 1) != 0;
        }

        boolean hasSign(int person, int sign) {
            return (signs[person] >> sign & 1) != 0;
        }

        int earned() {
            int sum = 0;
            for (int person = 0; person < persons; person++) {
                sum += earns[person];
            }
            return sum;
        }

        int personsOf(int kind) {
            int count = 0;
            for (int person = 0; person < persons; person++) {
                if (kindOf[person] == kind) {
                    count++;
                }
            }
            return count;
        }

        /** What the PERSONS of a KIND have in a row that has a number for each PERSON. */
        int total(int[] row, int kind) {
            int sum = 0;
            for (int person = 0; person < persons; person++) {
                if (kindOf[person] == kind) {
                    sum += row[person];
                }
            }
            return sum;
        }

        int steps(int from, int to) {
            int reached = 1 << from;
            for (int steps = 0; steps < MOST_PERSONS; steps++) {
                if ((reached >> to & 1) != 0) {
                    return steps;
                }
                reached |= neighboursOf(reached);
            }
            return OUT_OF_HEARING;
        }

        private int neighboursOf(int some) {
            int all = 0;
            for (int person = 0; person < persons; person++) {
                if ((some >> person & 1) != 0) {
                    all |= near[person];
                }
            }
            return all;
        }
    }

    /** The ways of all KINDS, as steps on a stack: each operator stands behind both its sides. */
    private static final class Ways {
        static final int MOST_STEPS = 2 * Reader.MOST_UNITS;

        private final int[] step = new int[MOST_STEPS];
        private final int[] number = new int[MOST_STEPS];
        private final int[] from = new int[MOST_KINDS];
        private final int[] behind = new int[MOST_KINDS];
        private final int[] stack = new int[MOST_STEPS];
        private int count;
        private int earns;
        private int paper;
        private int belief;
        private int last;
        private int year;

        void clear() {
            count = 0;
            Arrays.fill(from, 0);
            Arrays.fill(behind, 0);
        }

        boolean areTold(int kind) {
            return behind[kind] > from[kind];
        }

        void open(int kind) {
            from[kind] = count;
        }

        void close(int kind) {
            behind[kind] = count;
        }

        void add(int itsStep, int itsNumber) {
            if (count < MOST_STEPS) {
                step[count] = itsStep;
                number[count] = itsNumber;
                count++;
            }
        }

        void set(int itsEarns, int itsPaper, int itsBelief, int itsLast, int itsYear) {
            earns = itsEarns;
            paper = itsPaper;
            belief = itsBelief;
            last = itsLast;
            year = itsYear;
        }

        /** What the ways of a KIND say for what was set. */
        int value(int kind) {
            if (!areTold(kind)) {
                return earns;
            }
            int top = 0;
            for (int i = from[kind]; i < behind[kind]; i++) {
                if (!isOperator(step[i])) {
                    stack[top] = leaf(step[i], number[i]);
                    top++;
                } else if (top > 1) {
                    top--;
                    stack[top - 1] = joined(step[i], stack[top - 1], stack[top]);
                }
            }
            return stack[0];
        }

        private static boolean isOperator(int sort) {
            return sort == '+' || sort == '-' || sort == '*' || sort == '/';
        }

        private int leaf(int sort, int itsNumber) {
            switch (sort) {
                case Tokens.EARNS: return earns;
                case Tokens.PAPER: return paper;
                case Tokens.BELIEF: return belief;
                case Tokens.LAST: return last;
                case Tokens.YEAR: return year;
                default: return itsNumber;
            }
        }

        private static int joined(int operator, int a, int b) {
            switch (operator) {
                case '+': return a + b;
                case '-': return a - b;
                case '*': return a * b;
                default: return b == 0 ? 0 : a / b;
            }
        }
    }

    /** What is kept of one YEAR. */
    private static final class Year {
        final int[] wrote = new int[MOST_PERSONS];
        int written;
        int matched;
        int foundSmelt;
        int foundLot;
        int lots;
        int wrongs;
        /** PERSONS as bits. */
        int looked;
        int lettered;

        void clear() {
            written = 0;
            matched = 0;
            foundSmelt = 0;
            foundLot = 0;
            lots = 0;
            wrongs = 0;
            looked = 0;
            lettered = 0;
        }

        void take(Year other) {
            System.arraycopy(other.wrote, 0, wrote, 0, MOST_PERSONS);
            written = other.written;
            matched = other.matched;
            foundSmelt = other.foundSmelt;
            foundLot = other.foundLot;
            lots = other.lots;
            wrongs = other.wrongs;
            looked = other.looked;
            lettered = other.lettered;
        }

        int coin() {
            return written + matched + foundSmelt + foundLot;
        }
    }

    /** All that YEARS change: what PERSONS believe and paid, what was FOUND on them, the YEARS, w. */
    private static final class House {
        final int[] believes = new int[MOST_PERSONS];
        final int[] wrote = new int[MOST_PERSONS];
        final int[] paid = new int[MOST_PERSONS];
        final int[] looks = new int[MOST_PERSONS];
        final int[] wrongs = new int[MOST_PERSONS];
        final int[] found = new int[MOST_PERSONS];
        final Year[] years;
        int count;
        int w = 1;
        /** As the latest rank() left them. */
        final int[] scores = new int[MOST_PERSONS];
        final int[] ranked = new int[MOST_PERSONS];

        final Land land;
        private final int[] rates = new int[SIGN_BITS];
        private final int[] chosen = new int[MOST_PERSONS];
        private final int[] left = new int[MOST_PERSONS];
        private int leftCount;

        House(Land land, int yearsKept) {
            this.land = land;
            int rows = Math.max(1, yearsKept);
            years = new Year[rows];
            for (int i = 0; i < rows; i++) {
                years[i] = new Year();
            }
        }

        void begin() {
            Arrays.fill(believes, FIRST_BELIEF);
            Arrays.fill(wrote, 0);
            Arrays.fill(paid, 0);
            Arrays.fill(looks, 0);
            Arrays.fill(wrongs, 0);
            Arrays.fill(found, 0);
            count = 0;
        }

        /** What the next YEAR starts from, without the YEARS that were. */
        void takeLatest(House other) {
            System.arraycopy(other.believes, 0, believes, 0, MOST_PERSONS);
            System.arraycopy(other.wrote, 0, wrote, 0, MOST_PERSONS);
            System.arraycopy(other.paid, 0, paid, 0, MOST_PERSONS);
            System.arraycopy(other.looks, 0, looks, 0, MOST_PERSONS);
            System.arraycopy(other.wrongs, 0, wrongs, 0, MOST_PERSONS);
            System.arraycopy(other.found, 0, found, 0, MOST_PERSONS);
            count = other.count;
            w = other.w;
        }

        void takeAll(House other) {
            takeLatest(other);
            int rows = Math.min(count, Math.min(years.length, other.years.length));
            for (int i = 0; i < rows; i++) {
                years[i].take(other.years[i]);
            }
        }

        boolean hasYear(int year) {
            return year >= 1 && year <= count && year <= years.length;
        }

        int wouldWrite(int person) {
            int earns = land.earns[person];
            land.ways.set(earns, land.paper[person], believes[person], wrote[person], count + 1);
            return Math.max(0, Math.min(earns, land.ways.value(land.kindOf[person])));
        }

        int allWouldWrite() {
            int sum = 0;
            for (int person = 0; person < land.persons; person++) {
                sum += wouldWrite(person);
            }
            return sum;
        }

        /** Puts the PERSONS in the order in which they would be SMELT. */
        void rank() {
            rateSigns();
            for (int person = 0; person < land.persons; person++) {
                scores[person] = scoreOf(person);
                int at = person;
                for (; at > 0 && scores[ranked[at - 1]] < scores[person]; at--) {
                    ranked[at] = ranked[at - 1];
                }
                ranked[at] = person;
            }
        }

        private void rateSigns() {
            for (int sign = 0; sign < SIGN_BITS; sign++) {
                int sum = 0;
                int times = 0;
                for (int person = 0; person < land.persons; person++) {
                    if (land.hasSign(person, sign)) {
                        sum += found[person];
                        times += looks[person];
                    }
                }
                rates[sign] = times == 0 ? 0 : sum * 1000 / times;
            }
        }

        private int scoreOf(int person) {
            int sum = 0;
            for (int sign = 0; sign < SIGN_BITS; sign++) {
                if (land.hasSign(person, sign)) {
                    sum += rates[sign];
                }
            }
            return sum;
        }

        /** A YEAR: its COIN. With no row left for it, it is written over the last one. */
        int passYear(boolean match, int smelt, int lot, int letters) {
            Year latest = years[Math.min(count, years.length - 1)];
            latest.clear();
            writeAll(latest, match);
            choose(smelt, lot);
            for (int i = 0; i < smelt + lot; i++) {
                look(chosen[i], i >= smelt, latest);
            }
            sendLetters(letters, latest);
            count++;
            return latest.coin();
        }

        private void writeAll(Year latest, boolean match) {
            for (int person = 0; person < land.persons; person++) {
                int would = wouldWrite(person);
                int pays = match ? Math.max(would, land.paper[person]) : would;
                wrote[person] = would;
                paid[person] = pays;
                latest.wrote[person] = would;
                latest.written += would;
                latest.matched += pays - would;
            }
        }

        private void choose(int smelt, int lot) {
            rank();
            int taken = 0;
            for (int i = 0; i < smelt; i++) {
                chosen[i] = ranked[i];
                taken |= 1 << ranked[i];
            }
            gatherWithout(taken);
            for (int i = smelt; i < smelt + lot; i++) {
                chosen[i] = drawPerson();
            }
        }

        /** What it adds to a PERSON's sums is for later YEARS: SMELT ones were chosen ahead of all LOOKS. */
        private void look(int person, boolean byLot, Year latest) {
            int more = wouldBeFound(person);
            boolean wrong = land.wrong > 0 && draw(10) < land.wrong;
            paid[person] += more;
            found[person] += more;
            looks[person]++;
            latest.looked |= 1 << person;
            if (wrong) {
                wrongs[person]++;
                latest.wrongs++;
            }
            if (byLot) {
                latest.foundLot += more;
                latest.lots++;
            } else {
                latest.foundSmelt += more;
            }
            learn(person, more > 0, wrong);
        }

        int wouldBeFound(int person) {
            return (land.earns[person] - paid[person]) * land.depth / ALL_DEPTH;
        }

        /** What a LOOK teaches the one looked at and its neighbours. */
        void learn(int person, boolean anyFound, boolean wrong) {
            shiftBelief(person, anyFound || wrong ? land.teachFound : -land.teachClean);
            if (anyFound) {
                for (int other = 0; other < land.persons; other++) {
                    if (land.areNear(person, other)) {
                        shiftBelief(other, land.teachHeard);
                    }
                }
            }
        }

        private void shiftBelief(int person, int by) {
            believes[person] = Math.max(0, Math.min(MOST_BELIEF, believes[person] + by));
        }

        private void sendLetters(int letters, Year latest) {
            gatherWithout(latest.looked);
            for (int i = 0; i < letters; i++) {
                int person = drawPerson();
                latest.lettered |= 1 << person;
                shiftBelief(person, land.teachLetter);
            }
        }

        private void gatherWithout(int some) {
            leftCount = 0;
            for (int person = 0; person < land.persons; person++) {
                if ((some >> person & 1) == 0) {
                    left[leftCount] = person;
                    leftCount++;
                }
            }
        }

        private int drawPerson() {
            int at = draw(leftCount);
            int person = left[at];
            leftCount--;
            for (int i = at; i < leftCount; i++) {
                left[i] = left[i + 1];
            }
            return person;
        }

        private int draw(int n) {
            if (n < 1) {
                return 0;
            }
            w = w * 1103515245 + 12345;
            return (w >>> 16) % n;
        }
    }

    /** What would be: a trial goes on from what is now, and that stays as it was. */
    private static final class Plans {
        int bestSmelt;
        int bestCoin;
        private final House now;
        private final House trial;

        Plans(House now) {
            this.now = now;
            trial = new House(now.land, 1);
        }

        int lookAt(int person) {
            int before = now.allWouldWrite();
            int more = now.wouldBeFound(person);
            trial.takeLatest(now);
            trial.learn(person, more > 0, false);
            return more + trial.allWouldWrite() - before;
        }

        void mix(int looks, int years) {
            bestSmelt = 0;
            bestCoin = NONE;
            for (int smelt = 0; smelt <= looks; smelt++) {
                int coin = coinOf(smelt, looks - smelt, years);
                if (coin > bestCoin) {
                    bestSmelt = smelt;
                    bestCoin = coin;
                }
            }
        }

        private int coinOf(int smelt, int lot, int years) {
            trial.takeLatest(now);
            int coin = 0;
            for (int i = 0; i < years; i++) {
                coin += trial.passYear(false, smelt, lot, 0);
            }
            return coin;
        }

        int knownSmelt(int n) {
            trial.takeLatest(now);
            trial.rank();
            Arrays.fill(trial.believes, 0);
            for (int i = 0; i < n; i++) {
                trial.believes[trial.ranked[i]] = MOST_BELIEF;
            }
            return trial.allWouldWrite();
        }

        int knownLot(int n) {
            int persons = now.land.persons;
            if (persons == 0) {
                return 0;
            }
            trial.takeLatest(now);
            Arrays.fill(trial.believes, MOST_BELIEF * n / persons);
            return trial.allWouldWrite();
        }
    }

    /** Who goes over to cash behind whom. */
    private static final class Cash {
        /** Of the latest spread(): PERSONS as bits, and ROUNDS in which any went. */
        int gone;
        int rounds;
        private final Land land;

        Cash(Land land) {
            this.land = land;
        }

        void spread(int persons, int h) {
            gone = persons;
            rounds = 0;
            for (int turn = 0; turn < MOST_PERSONS; turn++) {
                int joining = joining(h);
                if (joining == 0) {
                    return;
                }
                gone |= joining;
                rounds++;
            }
        }

        private int joining(int h) {
            int joining = 0;
            for (int person = 0; person < land.persons; person++) {
                int near = land.near[person];
                boolean stays = near == 0 || (gone >> person & 1) != 0;
                if (!stays && Integer.bitCount(near & gone) * MOST_SHARE >= h * Integer.bitCount(near)) {
                    joining |= 1 << person;
                }
            }
            return joining;
        }

        int leader(int h) {
            int leader = 0;
            int most = 0;
            for (int person = 0; person < land.persons; person++) {
                spread(1 << person, h);
                int all = Integer.bitCount(gone);
                if (all > most) {
                    most = all;
                    leader = person;
                }
            }
            return leader;
        }
    }

    /** What LETTERS of a YEAR changed on those who were not looked at in it. */
    private static final class Study {
        static final int HALF_BITS = 8;
        static final int HALF_CHOICES = 256;
        /** 8 of 16: no other number of so many gives more choices. */
        static final int MOST_CHOICES = 12870;

        private final int[] changes = new int[MOST_PERSONS];
        private final int[] lowSums = new int[HALF_CHOICES];
        private final int[] highSums = new int[HALF_CHOICES];
        private int all;
        private int allChange;
        private int lettered;
        private int letteredChange;

        /** False if there is no DID of that YEAR. */
        boolean take(House house, int year) {
            if (!house.hasYear(year) || !house.hasYear(year + 1)) {
                return false;
            }
            Year here = house.years[year - 1];
            Year next = house.years[year];
            all = 0;
            allChange = 0;
            lettered = 0;
            letteredChange = 0;
            for (int person = 0; person < house.land.persons; person++) {
                if ((here.looked >> person & 1) == 0) {
                    takeChange(next.wrote[person] - here.wrote[person], (here.lettered >> person & 1) != 0);
                }
            }
            return lettered > 0 && lettered < all;
        }

        private void takeChange(int change, boolean byLetter) {
            changes[all] = change;
            all++;
            allChange += change;
            if (byLetter) {
                lettered++;
                letteredChange += change;
            }
        }

        void effect(Fraction into) {
            int others = all - lettered;
            int othersChange = allChange - letteredChange;
            into.take(letteredChange * others - othersChange * lettered, lettered * others);
        }

        /**
         * All that was changed together is the same for every choice: a choice's mean less the others'
         * is no less just where the sum of the chosen ones is no less.
         */
        void chance(Fraction into) {
            addUp(lowSums, 0);
            addUp(highSums, HALF_BITS);
            int choices = 0;
            int noLess = 0;
            int choice = (1 << lettered) - 1;
            for (int turn = 0; turn < MOST_CHOICES && choice < 1 << all; turn++) {
                int sum = lowSums[choice % HALF_CHOICES] + highSums[choice / HALF_CHOICES];
                choices++;
                if (sum >= letteredChange) {
                    noLess++;
                }
                choice = nextChoice(choice);
            }
            into.take(noLess, choices);
        }

        /** For each choice of the eight from there on (as bits) what they changed together. */
        private void addUp(int[] sums, int from) {
            sums[0] = 0;
            for (int bit = 0; bit < HALF_BITS; bit++) {
                int change = from + bit < all ? changes[from + bit] : 0;
                int half = 1 << bit;
                for (int i = 0; i < half; i++) {
                    sums[half + i] = sums[i] + change;
                }
            }
        }

        /** The least greater number with as many bits. */
        private static int nextChoice(int choice) {
            int least = choice & -choice;
            if (least == 0) {
                return 1 << MOST_PERSONS;
            }
            int carried = choice + least;
            return carried | (choice ^ carried) / least >>> 2;
        }
    }

    /** In lowest terms, its lower part above 0. */
    private static final class Fraction {
        /** More steps than any two ints need. */
        static final int MOST_STEPS = 64;

        private int upper;
        private int lower = 1;

        void take(int itsUpper, int itsLower) {
            int shared = shared(Math.abs(itsUpper), itsLower);
            if (shared == 0) {
                return;
            }
            upper = itsUpper / shared;
            lower = itsLower / shared;
        }

        /** The greatest number that divides both. */
        private static int shared(int a, int b) {
            int greater = a;
            int less = b;
            for (int step = 0; step < MOST_STEPS && less != 0; step++) {
                int rest = greater % less;
                greater = less;
                less = rest;
            }
            return greater;
        }

        int part(int part, int otherwise) {
            switch (part) {
                case 0: return upper;
                case 1: return lower;
                default: return otherwise;
            }
        }

        int cut() {
            return lower == 0 ? 0 : upper / lower;
        }
    }
}
