/**
 * An office that gives homes back: papers, claims under a law in a text, heirs' shares, money of the years and
 * swaps of houses. What each call must answer stands in the project's document, as numbered promises.
 */
public final class HomeRoll {
    /** There is none. */
    public static final int NONE = -1;

    private static final int LAST_DAY = 36499;
    private static final int DAYS_OF_YEAR = 365;
    private static final int MOST_MONEY = 1000000;
    private static final int MOST_DAYS_AT_ONCE = 1000;
    private static final int YEARS = 100;
    private static final int FIRST_LEVEL = 100;
    private static final int MOST_LEVEL = 10000;
    private static final long MOST_PRICE = 2147483647;
    private static final int NUMBERS_OF_A_FEED = 5;
    private static final int RULING_MONEY = 3;
    private static final int RULING_NONE = 4;

    private final People people;
    private final Shares shares;
    private final Houses houses;
    private final int[] levels;
    private final Papers papers;
    private final Trail trail;
    private final Claims claims;
    private final Tape tape;
    private final Tokens tokens;
    private final Parser parser;
    private final Swaps swaps;
    private Law inForce;
    private int today;

    public HomeRoll() {
        people = new People();
        shares = new Shares(people);
        houses = new Houses();
        levels = new int[YEARS];
        for (int year = 0; year < YEARS; year++) {
            levels[year] = FIRST_LEVEL;
        }
        papers = new Papers();
        trail = new Trail(houses, papers);
        claims = new Claims();
        tape = new Tape();
        tokens = new Tokens();
        parser = new Parser(tokens);
        swaps = new Swaps();
        inForce = new Law();
        today = 0;
    }

    public int person(int mother, int father) {
        return people.add(mother, father);
    }

    public boolean dead(int person, int day) {
        return isDay(day) && people.tellDeath(person, day);
    }

    public int house(int holder, int worth) {
        if (!people.has(holder) || !isMoney(worth)) {
            return NONE;
        }
        int number = houses.add(holder, worth);
        swaps.reachTo(houses.count);
        return number;
    }

    public boolean level(int year, int level) {
        if (!isYear(year) || level < 1 || level > MOST_LEVEL) {
            return false;
        }
        levels[year] = level;
        return true;
    }

    public long money(int sum, int from, int to) {
        return isMoney(sum) ? convert(sum, from, to) : NONE;
    }

    public int paper(int house, int from, int to, int day, int sort, int price) {
        if (!houses.has(house) || !people.has(from) || !people.has(to) || from == to) {
            return NONE;
        }
        if (day < 0 || day > today || sort < Papers.SOLD || sort > Papers.GIVEN || !isMoney(price)) {
            return NONE;
        }
        int number = papers.add(house, from, to, day);
        papers.describe(number, sort, price, today);
        return number;
    }

    public boolean isFalse(int paper) {
        return papers.revoke(paper, today);
    }

    public int later(int days) {
        if (days < 0 || days > MOST_DAYS_AT_ONCE || today + days > LAST_DAY) {
            return NONE;
        }
        today += days;
        return today;
    }

    public int holder(int house, int d, int k) {
        if (!houses.has(house)) {
            return NONE;
        }
        trail.follow(house, d, k, NONE);
        return trail.lastHolder;
    }

    public int loose(int paper, int k) {
        if (!papers.countsOn(paper, k)) {
            return NONE;
        }
        trail.follow(papers.houses[paper], LAST_DAY, k, paper);
        return trail.passedMark ? 0 : 1;
    }

    public int feed(int a, int b, int c, int d, int e) {
        if (!tape.hasRoomFor(NUMBERS_OF_A_FEED)) {
            return NONE;
        }
        tape.put(a);
        tape.put(b);
        tape.put(c);
        tape.put(d);
        tape.put(e);
        return tape.length;
    }

    public int end(int n) {
        return tape.cut(n) ? n : NONE;
    }

    public int law() {
        tokens.scan(tape.bytes, tape.length);
        tape.cut(0);
        if (!parser.parse()) {
            return NONE;
        }
        // the two laws change places, so that the next text never writes over the one in force
        Law old = inForce;
        inForce = parser.draft;
        parser.draft = old;
        return inForce.lines;
    }

    public int fault(int what) {
        switch (what) {
            case 0:
                return parser.faultFound;
            case 1:
                return parser.faultPlace;
            default:
                return NONE;
        }
    }

    public int claim(int paper) {
        return papers.has(paper) ? claims.add(paper) : NONE;
    }

    public int ruling(int claim, int k) {
        if (!weigh(claim, k)) {
            return NONE;
        }
        int line = inForce.firstLineThatHolds(claims.terms);
        return line == NONE ? RULING_NONE : inForce.rulings[line];
    }

    public int sum(int claim, int k) {
        if (!weigh(claim, k)) {
            return NONE;
        }
        int line = inForce.firstLineThatHolds(claims.terms);
        return line == NONE ? 0 : claims.terms[Claims.WORTH] * inForce.percents[line] / 100;
    }

    public int term(int claim, int term, int k) {
        if (term < 0 || term >= Claims.TERMS || !weigh(claim, k)) {
            return NONE;
        }
        return claims.terms[term];
    }

    public long share(int of, int person, int day, int part) {
        if (!people.has(of) || !people.has(person) || !isDay(day) || part < 0 || part > 1) {
            return NONE;
        }
        shares.divide(of, day);
        return part == 0 ? shares.numerator(person) : shares.denominator(person);
    }

    public int want(int house, int other, int joy) {
        if (!houses.has(house) || !houses.has(other)) {
            return NONE;
        }
        return swaps.tell(house, other, joy);
    }

    public int joy() {
        swaps.settle();
        return swaps.greatest[0];
    }

    public int swap(int house) {
        if (!houses.has(house)) {
            return NONE;
        }
        swaps.settle();
        return swaps.given[house];
    }

    public int about(int what) {
        switch (what) {
            case 0:
                return people.count;
            case 1:
                return houses.count;
            case 2:
                return papers.count;
            case 3:
                return today;
            case 4:
                return inForce.lines;
            case 5:
                return claims.count;
            case 6:
                return swaps.told;
            case 7:
                return tape.length;
            default:
                return NONE;
        }
    }

    private static boolean isDay(int day) {
        return day >= 0 && day <= LAST_DAY;
    }

    private static boolean isYear(int year) {
        return year >= 0 && year < YEARS;
    }

    private static boolean isMoney(int amount) {
        return amount >= 0 && amount <= MOST_MONEY;
    }

    private static int truth(boolean holds) {
        return holds ? 1 : 0;
    }

    private long convert(int amount, int from, int to) {
        if (!isYear(from) || !isYear(to) || levels[from] < 1) {
            return NONE;
        }
        return (long) amount * levels[to] / levels[from];
    }

    /** Fills the terms of a claim as known on a day; false if its paper does not count then, or is loose. */
    private boolean weigh(int claim, int k) {
        if (!claims.has(claim)) {
            return false;
        }
        int paper = claims.papers[claim];
        if (!papers.countsOn(paper, k)) {
            return false;
        }
        int house = papers.houses[paper];
        trail.follow(house, LAST_DAY, k, paper);
        if (!trail.passedMark || !houses.has(house)) {
            return false;
        }
        int day = papers.days[paper];
        int[] terms = claims.terms;
        terms[Claims.FORCED] = truth(papers.sorts[paper] == Papers.FORCED);
        terms[Claims.GIVEN] = truth(papers.sorts[paper] == Papers.GIVEN);
        terms[Claims.PRICE] = priceOfLastYear(paper);
        terms[Claims.WORTH] = houses.worths[house];
        terms[Claims.YEAR] = day / DAYS_OF_YEAR;
        terms[Claims.HELD] = (day - trail.sinceBeforeMark) / DAYS_OF_YEAR;
        terms[Claims.HANDS] = trail.passedBehindMark;
        terms[Claims.LIVES] = truth(trail.lastHolder == papers.takers[paper]);
        terms[Claims.DEAD] = truth(people.isDeadOn(papers.givers[paper], k));
        return true;
    }

    private int priceOfLastYear(int paper) {
        int year = papers.days[paper] / DAYS_OF_YEAR;
        return (int) Math.min(convert(papers.prices[paper], year, YEARS - 1), MOST_PRICE);
    }

    /** The people, each told behind its mother and its father. */
    private static final class People {
        static final int MOST = 24;

        final int[] mothers = new int[MOST];
        final int[] fathers = new int[MOST];
        final int[] deathDays = new int[MOST];
        int count = 0;

        boolean has(int person) {
            return person >= 0 && person < count;
        }

        int add(int mother, int father) {
            if (count >= MOST || !canBeParent(mother) || !canBeParent(father)) {
                return NONE;
            }
            mothers[count] = mother;
            fathers[count] = father;
            deathDays[count] = NONE;
            count++;
            return count - 1;
        }

        boolean canBeParent(int person) {
            return person == NONE || has(person);
        }

        boolean tellDeath(int person, int day) {
            if (!has(person) || deathDays[person] != NONE) {
                return false;
            }
            deathDays[person] = day;
            return true;
        }

        boolean isDeadOn(int person, int day) {
            return has(person) && deathDays[person] != NONE && deathDays[person] <= day;
        }

        boolean isChildOf(int child, int parent) {
            return has(child) && (mothers[child] == parent || fathers[child] == parent);
        }
    }

    /** How one person's right falls to its heirs. */
    private static final class Shares {
        private static final int MOST_STEPS = 100;

        final People people;
        final int[] heirs = new int[People.MOST];
        final boolean[] canTake = new boolean[People.MOST];
        final long[] parts = new long[People.MOST];
        long whole = 1;

        Shares(People people) {
            this.people = people;
        }

        /**
         * Every right is counted in parts of one whole, the product of all numbers of heirs, so that no division
         * leaves a rest. It stays small: 24 people have at most 46 parents, so it is at most some 3 to the 15th.
         */
        void divide(int of, int day) {
            findHeirs(day);
            for (int person = 0; person < people.count; person++) {
                parts[person] = person == of ? whole : 0;
            }
            for (int person = 0; person < people.count; person++) {
                if (parts[person] > 0 && people.isDeadOn(person, day)) {
                    handOn(person);
                }
            }
        }

        /** Children have the higher numbers, so going down knows of every child before its parents ask. */
        private void findHeirs(int day) {
            whole = 1;
            for (int person = people.count - 1; person >= 0; person--) {
                heirs[person] = 0;
                for (int child = person + 1; child < people.count; child++) {
                    if (isHeir(child, person)) {
                        heirs[person]++;
                    }
                }
                boolean isDead = people.isDeadOn(person, day);
                canTake[person] = !isDead || heirs[person] > 0;
                if (isDead && heirs[person] > 0) {
                    whole *= heirs[person];
                }
            }
        }

        private boolean isHeir(int child, int person) {
            return canTake[child] && people.isChildOf(child, person);
        }

        private void handOn(int person) {
            if (heirs[person] > 0) {
                long each = parts[person] / heirs[person];
                for (int child = person + 1; child < people.count; child++) {
                    if (isHeir(child, person)) {
                        parts[child] += each;
                    }
                }
            }
            parts[person] = 0;
        }

        long numerator(int person) {
            long common = commonDivisor(parts[person], whole);
            return common > 0 ? parts[person] / common : 0;
        }

        long denominator(int person) {
            long common = commonDivisor(parts[person], whole);
            return common > 0 ? whole / common : 1;
        }

        private static long commonDivisor(long a, long b) {
            long high = a;
            long low = b;
            for (int step = 0; step < MOST_STEPS && low != 0; step++) {
                long rest = high % low;
                high = low;
                low = rest;
            }
            return high;
        }
    }

    /** The houses, with those who held them first. */
    private static final class Houses {
        static final int MOST = 8;

        final int[] firstHolders = new int[MOST];
        final int[] worths = new int[MOST];
        int count = 0;

        boolean has(int house) {
            return house >= 0 && house < count;
        }

        int add(int holder, int worth) {
            if (count >= MOST) {
                return NONE;
            }
            firstHolders[count] = holder;
            worths[count] = worth;
            count++;
            return count - 1;
        }
    }

    /** The papers by their numbers, and beside that in the order in which they take effect. */
    private static final class Papers {
        static final int MOST = 60;
        static final int SOLD = 0;
        static final int FORCED = 1;
        static final int GIVEN = 2;

        final int[] houses = new int[MOST];
        final int[] givers = new int[MOST];
        final int[] takers = new int[MOST];
        final int[] days = new int[MOST];
        final int[] sorts = new int[MOST];
        final int[] prices = new int[MOST];
        final int[] foundDays = new int[MOST];
        final int[] falseDays = new int[MOST];
        final int[] byDay = new int[MOST];
        int count = 0;

        boolean has(int paper) {
            return paper >= 0 && paper < count;
        }

        int add(int house, int giver, int taker, int day) {
            if (count >= MOST) {
                return NONE;
            }
            int number = count;
            houses[number] = house;
            givers[number] = giver;
            takers[number] = taker;
            days[number] = day;
            falseDays[number] = NONE;
            putInOrder(number);
            count++;
            return number;
        }

        /** Papers of like days stay as they were told: the new one goes behind them. */
        private void putInOrder(int number) {
            int place = number;
            for (int i = number; i > 0 && days[byDay[i - 1]] > days[number]; i--) {
                byDay[i] = byDay[i - 1];
                place = i - 1;
            }
            byDay[place] = number;
        }

        void describe(int paper, int sort, int price, int foundDay) {
            if (has(paper)) {
                sorts[paper] = sort;
                prices[paper] = price;
                foundDays[paper] = foundDay;
            }
        }

        boolean revoke(int paper, int day) {
            if (!has(paper) || falseDays[paper] != NONE) {
                return false;
            }
            falseDays[paper] = day;
            return true;
        }

        boolean countsOn(int paper, int k) {
            return has(paper) && foundDays[paper] <= k && (falseDays[paper] == NONE || falseDays[paper] > k);
        }
    }

    /** The way of one house from hand to hand, with what a marked paper did on it. */
    private static final class Trail {
        final Houses houses;
        final Papers papers;
        int lastHolder = NONE;
        boolean passedMark = false;
        int sinceBeforeMark = 0;
        int passedBehindMark = 0;

        Trail(Houses houses, Papers papers) {
            this.houses = houses;
            this.papers = papers;
        }

        void follow(int house, int lastDay, int k, int mark) {
            lastHolder = houses.has(house) ? houses.firstHolders[house] : NONE;
            passedMark = false;
            sinceBeforeMark = 0;
            passedBehindMark = 0;
            int since = 0;
            for (int i = 0; i < papers.count; i++) {
                int paper = papers.byDay[i];
                if (papers.houses[paper] == house && papers.days[paper] <= lastDay && movesHouse(paper, k)) {
                    if (paper == mark) {
                        passedMark = true;
                        sinceBeforeMark = since;
                    } else if (passedMark) {
                        passedBehindMark++;
                    }
                    lastHolder = papers.takers[paper];
                    since = papers.days[paper];
                }
            }
        }

        private boolean movesHouse(int paper, int k) {
            return papers.countsOn(paper, k) && papers.givers[paper] == lastHolder;
        }
    }

    /** The claims, and the terms of the one that was weighed last. */
    private static final class Claims {
        static final int MOST = 30;
        static final int TERMS = 9;
        static final int FORCED = 0;
        static final int GIVEN = 1;
        static final int PRICE = 2;
        static final int WORTH = 3;
        static final int YEAR = 4;
        static final int HELD = 5;
        static final int HANDS = 6;
        static final int LIVES = 7;
        static final int DEAD = 8;

        final int[] papers = new int[MOST];
        final int[] terms = new int[TERMS];
        int count = 0;

        boolean has(int claim) {
            return claim >= 0 && claim < count;
        }

        int add(int paper) {
            if (count >= MOST || isClaimed(paper)) {
                return NONE;
            }
            papers[count] = paper;
            count++;
            return count - 1;
        }

        private boolean isClaimed(int paper) {
            for (int claim = 0; claim < count; claim++) {
                if (papers[claim] == paper) {
                    return true;
                }
            }
            return false;
        }
    }

    /** The bytes that wait to become the law. */
    private static final class Tape {
        static final int MOST = 600;

        final byte[] bytes = new byte[MOST];
        int length = 0;

        boolean hasRoomFor(int numbers) {
            return length + 4 * numbers <= MOST;
        }

        void put(int number) {
            if (hasRoomFor(1)) {
                bytes[length] = (byte) (number >> 24);
                bytes[length + 1] = (byte) (number >> 16);
                bytes[length + 2] = (byte) (number >> 8);
                bytes[length + 3] = (byte) number;
                length += 4;
            }
        }

        boolean cut(int newLength) {
            if (newLength < 0 || newLength > length) {
                return false;
            }
            length = newLength;
            return true;
        }
    }

    /** The tokens of a text up to its end, or up to the first place where none stands. */
    private static final class Tokens {
        /** A row of eight letters a word; the terms in the order of their numbers. */
        private static final String TERM_WORDS =
                "forced  given   price   worth   year    held    hands   lives   dead    ";
        private static final String OTHER_WORDS =
                "when    do      back    other   money   none    or      and     not     ";
        private static final String SIGNS = ";()<>=+-";
        private static final int WORD_LETTERS = 8;
        private static final int NUMBER_DIGITS = 7;

        // the kinds of token: words by their rows in both texts, signs by their places in SIGNS behind the semicolon
        static final int WHEN = 9;
        static final int DO = 10;
        static final int BACK = 11;
        static final int NOTHING = 14;
        static final int OR = 15;
        static final int AND = 16;
        static final int NOT = 17;
        static final int STRANGE_WORD = 18;
        static final int NUMBER = 19;
        static final int END = 20;
        static final int NO_TOKEN = 21;
        static final int SEMICOLON = 22;
        static final int OPEN = 23;
        static final int CLOSE = 24;
        static final int LESS = 25;
        static final int LIKE = 27;
        static final int PLUS = 28;
        static final int MINUS = 29;

        /** Every token but the end takes a byte of the text. */
        final byte[] kinds = new byte[Tape.MOST + 1];
        final short[] places = new short[Tape.MOST + 1];
        final int[] numbers = new int[Tape.MOST + 1];
        int count = 0;

        void scan(byte[] text, int length) {
            count = 0;
            int at = 0;
            for (int step = 0; step < text.length && at < length; step++) {
                int behind = isBlank(text[at]) ? at + 1 : scanToken(text, length, at);
                if (behind == NONE) {
                    add(NO_TOKEN, at, 0);
                    return;
                }
                at = behind;
            }
            add(END, length, 0);
        }

        /** Where the token ends that begins at a place; NONE if none does. */
        private int scanToken(byte[] text, int length, int at) {
            if (isLetter(text[at])) {
                return scanWord(text, length, at);
            }
            if (isDigit(text[at])) {
                return scanNumber(text, length, at);
            }
            int sign = text[at] >= 0 ? SIGNS.indexOf((char) text[at]) : NONE;
            if (sign < 0) {
                return NONE;
            }
            add(SEMICOLON + sign, at, 0);
            return at + 1;
        }

        private int scanWord(byte[] text, int length, int at) {
            int behind = at;
            while (behind < length && isLetter(text[behind])) {
                behind++;
            }
            if (behind - at > WORD_LETTERS) {
                return NONE;
            }
            int term = rowOf(TERM_WORDS, text, at, behind);
            int other = rowOf(OTHER_WORDS, text, at, behind);
            int kind = other == NONE ? STRANGE_WORD : WHEN + other;
            add(term == NONE ? kind : term, at, 0);
            return behind;
        }

        private int scanNumber(byte[] text, int length, int at) {
            int behind = at;
            int number = 0;
            while (behind < length && isDigit(text[behind])) {
                number = number * 10 + (text[behind] - '0');
                behind++;
            }
            boolean letterBehind = behind < length && isLetter(text[behind]);
            if (behind - at > NUMBER_DIGITS || letterBehind) {
                return NONE;
            }
            add(NUMBER, at, number);
            return behind;
        }

        private static int rowOf(String words, byte[] text, int at, int behind) {
            for (int row = 0; row < words.length() / WORD_LETTERS; row++) {
                if (isWord(words, row * WORD_LETTERS, text, at, behind)) {
                    return row;
                }
            }
            return NONE;
        }

        private static boolean isWord(String words, int start, byte[] text, int at, int behind) {
            for (int i = 0; i < WORD_LETTERS; i++) {
                int letter = at + i < behind ? text[at + i] : ' ';
                if (letter != words.charAt(start + i)) {
                    return false;
                }
            }
            return true;
        }

        private void add(int kind, int place, int number) {
            if (count < kinds.length) {
                kinds[count] = (byte) kind;
                places[count] = (short) place;
                numbers[count] = number;
                count++;
            }
        }

        private static boolean isBlank(byte b) {
            return b == ' ' || b == '\n';
        }

        private static boolean isLetter(byte b) {
            return b >= 'a' && b <= 'z';
        }

        private static boolean isDigit(byte b) {
            return b >= '0' && b <= '9';
        }
    }

    /** Reads a law out of tokens; what it can't read is the text's fault, told with its place. */
    private static final class Parser {
        private static final int FAULT_NO_TOKEN = 1;
        private static final int FAULT_MISPLACED = 2;
        private static final int FAULT_MONEY = 3;
        private static final int MOST_TERMS = 80;
        private static final int MOST_PERCENT = 100;
        /** What is within so many others can't stand. */
        private static final int TOO_DEEP = 6;

        final Tokens tokens;
        Law draft = new Law();
        int faultFound = 0;
        int faultPlace = NONE;
        private int next = 0;
        private int kind = Tokens.END;
        private int number = 0;
        private int termCount = 0;

        Parser(Tokens tokens) {
            this.tokens = tokens;
        }

        boolean parse() {
            draft.clear();
            faultFound = 0;
            faultPlace = NONE;
            termCount = 0;
            moveTo(0);
            for (int line = 0; line < Law.MOST_LINES && kind == Tokens.WHEN; line++) {
                if (!parseLine()) {
                    return false;
                }
            }
            return kind == Tokens.END || refuse();
        }

        private void moveTo(int token) {
            boolean isThere = token < tokens.count;
            next = token;
            kind = isThere ? tokens.kinds[token] : Tokens.END;
            number = isThere ? tokens.numbers[token] : 0;
        }

        private boolean take(int due) {
            if (kind != due) {
                return refuse();
            }
            moveTo(next + 1);
            return true;
        }

        private boolean refuse() {
            faultFound = kind == Tokens.NO_TOKEN ? FAULT_NO_TOKEN : FAULT_MISPLACED;
            faultPlace = next < tokens.count ? tokens.places[next] : NONE;
            return false;
        }

        private boolean parseLine() {
            return take(Tokens.WHEN) && parseEither(0) && take(Tokens.DO) && parseRuling() && take(Tokens.SEMICOLON);
        }

        private boolean parseRuling() {
            if (kind < Tokens.BACK || kind > Tokens.NOTHING) {
                return refuse();
            }
            int ruling = kind - Tokens.BACK + 1;
            moveTo(next + 1);
            if (ruling != RULING_MONEY) {
                draft.closeLine(ruling, 0);
                return true;
            }
            if (kind == Tokens.NUMBER && number > MOST_PERCENT) {
                refuse();
                faultFound = FAULT_MONEY;
                return false;
            }
            draft.closeLine(ruling, number);
            return take(Tokens.NUMBER);
        }

        private boolean parseEither(int depth) {
            if (!parseBoth(depth)) {
                return false;
            }
            for (int i = 0; i < MOST_TERMS && kind == Tokens.OR; i++) {
                moveTo(next + 1);
                if (!parseBoth(depth)) {
                    return false;
                }
                draft.write(Law.OR, 0);
            }
            return true;
        }

        private boolean parseBoth(int depth) {
            if (!parseOne(depth)) {
                return false;
            }
            for (int i = 0; i < MOST_TERMS && kind == Tokens.AND; i++) {
                moveTo(next + 1);
                if (!parseOne(depth)) {
                    return false;
                }
                draft.write(Law.AND, 0);
            }
            return true;
        }

        private boolean parseOne(int depth) {
            if (depth >= TOO_DEEP) {
                return refuse();
            }
            if (kind == Tokens.OPEN) {
                moveTo(next + 1);
                return parseEither(depth + 1) && take(Tokens.CLOSE);
            }
            if (kind == Tokens.NOT) {
                moveTo(next + 1);
                boolean isRead = parseOne(depth + 1);
                draft.write(Law.NOT, 0);
                return isRead;
            }
            if (!parseSum()) {
                return false;
            }
            if (kind < Tokens.LESS || kind > Tokens.LIKE) {
                return true;
            }
            int relation = Law.LESS + kind - Tokens.LESS;
            moveTo(next + 1);
            boolean isRead = parseSum();
            draft.write(relation, 0);
            return isRead;
        }

        private boolean parseSum() {
            int joining = Law.PLUS;
            for (int i = 0; i <= MOST_TERMS; i++) {
                boolean isNumber = kind == Tokens.NUMBER;
                boolean isTerm = isNumber || kind >= 0 && kind < Claims.TERMS;
                if (!isTerm || termCount >= MOST_TERMS) {
                    return refuse();
                }
                termCount++;
                draft.write(isNumber ? Law.NUMBER : Law.TERM, isNumber ? number : kind);
                if (i > 0) {
                    draft.write(joining, 0);
                }
                moveTo(next + 1);
                if (kind != Tokens.PLUS && kind != Tokens.MINUS) {
                    return true;
                }
                joining = kind == Tokens.PLUS ? Law.PLUS : Law.MINUS;
                moveTo(next + 1);
            }
            return refuse();
        }
    }

    /** A law as it is carried out: the code of its lines, what is worked on before what works on it. */
    private static final class Law {
        static final int MOST_LINES = 16;
        static final int NUMBER = 0;
        static final int TERM = 1;
        static final int NOT = 2;
        static final int AND = 3;
        static final int OR = 4;
        static final int LESS = 5;
        static final int MORE = 6;
        static final int LIKE = 7;
        static final int PLUS = 8;
        static final int MINUS = 9;
        private static final int KINDS = 16;
        /** Within 6 others at most two sides wait at each depth, and three at the last one. */
        private static final int MOST_WAITING = 32;

        /** Every step comes from a token of its own, so there are no more than bytes in the text. */
        final int[] steps = new int[Tape.MOST];
        final int[] lineEnds = new int[MOST_LINES];
        final int[] rulings = new int[MOST_LINES];
        final int[] percents = new int[MOST_LINES];
        final int[] waiting = new int[MOST_WAITING];
        int size = 0;
        int lines = 0;

        void clear() {
            size = 0;
            lines = 0;
        }

        void write(int kind, int value) {
            if (size < steps.length) {
                steps[size] = value * KINDS + kind;
                size++;
            }
        }

        void closeLine(int ruling, int percent) {
            if (lines < MOST_LINES) {
                rulings[lines] = ruling;
                percents[lines] = percent;
                lineEnds[lines] = size;
                lines++;
            }
        }

        int firstLineThatHolds(int[] terms) {
            int from = 0;
            for (int line = 0; line < lines; line++) {
                if (valueOf(from, lineEnds[line], terms) != 0) {
                    return line;
                }
                from = lineEnds[line];
            }
            return NONE;
        }

        private int valueOf(int from, int to, int[] terms) {
            int top = NONE;
            for (int i = from; i < to; i++) {
                int kind = steps[i] % KINDS;
                int value = steps[i] / KINDS;
                if (kind == NUMBER || kind == TERM) {
                    top++;
                    if (top >= MOST_WAITING || kind == TERM && value >= terms.length) {
                        return 0;
                    }
                    waiting[top] = kind == TERM ? terms[value] : value;
                } else if (kind == NOT && top >= 0) {
                    waiting[top] = truth(waiting[top] == 0);
                } else if (top >= 1) {
                    top--;
                    waiting[top] = join(kind, waiting[top], waiting[top + 1]);
                }
            }
            return top >= 0 ? waiting[top] : 0;
        }

        private static int join(int kind, int left, int right) {
            switch (kind) {
                case AND:
                    return truth(left != 0 && right != 0);
                case OR:
                    return truth(left != 0 || right != 0);
                case LESS:
                    return truth(left < right);
                case MORE:
                    return truth(left > right);
                case LIKE:
                    return truth(left == right);
                case PLUS:
                    return left + right;
                default:
                    return left - right;
            }
        }
    }

    /** The wants, and the best swap by them. */
    private static final class Swaps {
        private static final int MOST_WANTS = 40;
        private static final int MOST_JOY = 1000;

        final int[] joys = new int[Houses.MOST * Houses.MOST];
        final int[] given = new int[Houses.MOST];
        /** For each set of houses already given for the first ones: the greatest joy of the others, or NONE. */
        final int[] greatest = new int[1 << Houses.MOST];
        int houses = 0;
        int told = 0;
        boolean settled = true;

        void reachTo(int houseCount) {
            if (houseCount >= 0 && houseCount <= Houses.MOST) {
                houses = houseCount;
                settled = false;
            }
        }

        int tell(int house, int other, int joy) {
            if (told >= MOST_WANTS || house == other || joy < 0 || joy > MOST_JOY) {
                return NONE;
            }
            joys[house * Houses.MOST + other] = joy;
            told++;
            settled = false;
            return told;
        }

        void settle() {
            if (settled) {
                return;
            }
            int all = (1 << houses) - 1;
            greatest[all] = 0;
            for (int taken = all - 1; taken >= 0; taken--) {
                greatest[taken] = greatestBehind(taken);
            }
            choose();
            settled = true;
        }

        private int greatestBehind(int taken) {
            int best = NONE;
            for (int other = 0; other < houses; other++) {
                best = Math.max(best, joyWith(taken, other));
            }
            return best;
        }

        /** The greatest joy if the first house that has none yet is given a certain one; NONE if it can't be. */
        private int joyWith(int taken, int other) {
            int house = Integer.bitCount(taken);
            int bit = 1 << other;
            if (house >= houses || (taken & bit) != 0 || greatest[taken | bit] == NONE) {
                return NONE;
            }
            int joy = joys[house * Houses.MOST + other];
            if (house != other && joy == 0) {
                return NONE;
            }
            return joy + greatest[taken | bit];
        }

        /** The least house that keeps the greatest joy is the first of like ones. */
        private void choose() {
            int taken = 0;
            for (int house = 0; house < houses; house++) {
                given[house] = house;
                for (int other = houses - 1; other >= 0; other--) {
                    if (joyWith(taken, other) == greatest[taken]) {
                        given[house] = other;
                    }
                }
                taken |= 1 << given[house];
            }
        }
    }
}
