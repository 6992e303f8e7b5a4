import java.util.Arrays;
import java.util.NoSuchElementException;

/** Parishes whose bounds are beaten by children; ../shared/DOC.md says what each call promises. */
public final class BeatenBounds {
    public static final int NONE = -1;

    private static final int NOT_SO = -2;
    private static final int WAYS = 4;
    private static final int MAX_PARISHES = 4;
    private static final int MAX_CHILDREN = 6;
    private static final int MAX_BEATINGS = 12;
    private static final int MAX_SIZE = 40;
    private static final int MAX_TAPE = 700;
    private static final int FED_BYTES = 20;
    private static final int MAX_YEARS = 200;
    private static final int LAST_YEAR = 9800;
    private static final int LAST_WHEN = 199;

    private static final int WALK = 0;
    private static final int QUARL = 1;
    private static final int GROW = 2;

    private static final int AS_IT_GOES = 0;
    private static final int BY_NUMBERS = 1;
    private static final int ALL_DRY = 2;
    private static final int ALL_WET = 3;

    private static final long ERROR = Long.MIN_VALUE;

    private final byte[] tape;
    private int taped;
    private final Told told;
    private final Reader reader;
    private final Land now;
    private final Land later;
    private final Land image;
    private boolean imaged;
    private final Years years;
    private final Deeds deeds;
    private final Seen seen;
    private final Guess guess;
    private final Laying laying;

    public BeatenBounds() {
        tape = new byte[MAX_TAPE];
        told = new Told();
        reader = new Reader(tape);
        now = new Land(told);
        later = new Land(told);
        image = new Land(told);
        years = new Years(told);
        deeds = new Deeds();
        seen = new Seen();
        guess = new Guess(told, years, seen);
        laying = new Laying(told, years);
    }

    public int feed(int a, int b, int c, int d, int e) {
        if (taped + FED_BYTES > MAX_TAPE) {
            return NONE;
        }
        putBytes(a);
        putBytes(b);
        putBytes(c);
        putBytes(d);
        putBytes(e);
        return taped;
    }

    private void putBytes(int four) {
        for (int shift = 24; shift >= 0 && taped < MAX_TAPE; shift -= 8) {
            tape[taped] = (byte) (four >> shift);
            taped++;
        }
    }

    public int text(int n) {
        if (n < 0 || n > taped) {
            return NOT_SO;
        }
        taped = 0;
        if (!reader.reads(n)) {
            return NONE;
        }
        told.take(reader.draft);
        now.begin();
        seen.forget();
        deeds.forget();
        imaged = false;
        return told.lines;
    }

    public int fault(int what) {
        if (what == 0) {
            return reader.tokens.fault;
        }
        return what == 1 ? reader.tokens.faultPlace : NONE;
    }

    public int named(int what, int letters) {
        if (what == 0) {
            return told.parishNamed(letters);
        }
        return what == 1 ? told.childNamed(letters) : NONE;
    }

    public int parish(int parish, int what) throws IndexOutOfBoundsException, NoSuchElementException {
        if (!isParish(parish)) {
            throw new IndexOutOfBoundsException("no such parish");
        }
        if (what < 0 || what > 7) {
            throw new NoSuchElementException("no such what");
        }
        switch (what) {
            case 0:
                return told.row[parish];
            case 1:
                return told.column[parish];
            case 6:
                return now.area(parish);
            case 7:
                return now.touched(parish);
            default:
                return now.far[WAYS * parish + what - 2];
        }
    }

    public int child(int child, int what) {
        if (!isChild(child)) {
            return NONE;
        }
        switch (what) {
            case 0:
                return now.legs[child];
            case 1:
                return told.mood[child];
            case 2:
                return now.tired[child];
            default:
                return NONE;
        }
    }

    public int cake(int parish, int way) {
        return isParish(parish) && isWay(way) ? now.cake[WAYS * parish + way] : NONE;
    }

    public int owners(int row, int column) {
        return isCell(row, column) ? now.holders(row, column) : NONE;
    }

    public int overlap(int one, int other) {
        return isPair(one, other) ? now.shared(one, other) : NONE;
    }

    public int taken() {
        return now.cellsOfAtLeast(1);
    }

    public int disputed() {
        return now.cellsOfAtLeast(2);
    }

    public long law(int what, int one, int other, int way) {
        boolean wet = years.wetAsItGoes();
        if (what == WALK && isChild(one) && isParish(other) && isWay(way)) {
            int slot = WAYS * other + way;
            return years.walk(now, one, slot, now.cake[slot], wet);
        }
        if (what == QUARL && isPair(one, other)) {
            return years.quarl(now, now.shared(one, other), wet);
        }
        if (what == GROW && isChild(one)) {
            return years.grow(now, one, wet);
        }
        return ERROR;
    }

    public int beat(int parish, int child, int way) {
        if (!isParish(parish) || !isChild(child) || !isWay(way)) {
            return NONE;
        }
        int slot = WAYS * parish + way;
        deeds.note(now, slot, child);
        years.lead(now, child, slot, years.wetAsItGoes());
        return now.far[slot];
    }

    public boolean bake(int parish, int way, int size) {
        if (!isParish(parish) || !isWay(way) || size < 0 || size > 9) {
            return false;
        }
        int slot = WAYS * parish + way;
        if (now.cake[slot] == size) {
            return false;
        }
        deeds.note(now, slot, NONE);
        now.cake[slot] = size;
        return true;
    }

    public int carry(int parish, int way, int far) {
        if (!isParish(parish) || !isWay(way) || far < 0 || far > told.edge(parish, way)) {
            return NONE;
        }
        int slot = WAYS * parish + way;
        if (now.far[slot] == far) {
            return NONE;
        }
        deeds.note(now, slot, NONE);
        now.far[slot] = far;
        return now.area(parish);
    }

    public int go(int n) {
        if (n < 0 || n > MAX_YEARS || n > LAST_YEAR - now.year) {
            return NONE;
        }
        if (n > 0) {
            deeds.forget();
        }
        years.pass(now, n, BY_NUMBERS);
        return now.year;
    }

    public int ahead(int n, int what, int i) {
        boolean such = what == 1 || what == 3 || what == 0 && isParish(i) || what == 2 && isChild(i);
        if (n < 0 || n > MAX_YEARS || !such) {
            return NONE;
        }
        later.become(now);
        later.stonesOnly = what == 0 || what == 3;
        years.pass(later, n, AS_IT_GOES);
        switch (what) {
            case 0:
                return later.area(i);
            case 1:
                return later.quarrel - now.quarrel;
            case 2:
                return later.legs[i];
            default:
                return later.allShared();
        }
    }

    public int when(int parish, int row, int column) {
        if (!isParish(parish) || !isCell(row, column)) {
            return NONE;
        }
        later.become(now);
        later.stonesOnly = true;
        for (int k = 0; k <= LAST_WHEN; k++) {
            if (later.holds(parish, row, column)) {
                return k;
            }
            years.pass(later, 1, AS_IT_GOES);
        }
        return NOT_SO;
    }

    public int laid(int parish, int what) {
        if (!isParish(parish) || what < 0 || what > WAYS) {
            return NONE;
        }
        laying.match(now, parish);
        return what == WAYS ? laying.bestArea : laying.best[what];
    }

    public int cakeFor(int parish, int child, int way, int row, int column) {
        if (!isParish(parish) || !isChild(child) || !isWay(way) || !isCell(row, column)) {
            return NONE;
        }
        int slot = WAYS * parish + way;
        later.become(now);
        for (int size = 0; size <= 9; size++) {
            later.far[slot] = years.walkedFar(now, child, slot, size);
            if (later.holds(parish, row, column)) {
                return size;
            }
        }
        return NOT_SO;
    }

    public int cut(int one, int other, int what) {
        if (!isPair(one, other) || what < 0 || what > 2) {
            return NONE;
        }
        if (now.shared(one, other) < 2) {
            return NOT_SO;
        }
        int rows = now.commonRows(one, other);
        int columns = now.commonColumns(one, other);
        // The first line that differs least has half of them, rounded down, ahead of it.
        int byRows = rows < 2 ? Integer.MAX_VALUE : rows % 2 * columns;
        int byColumns = columns < 2 ? Integer.MAX_VALUE : columns % 2 * rows;
        boolean betweenRows = byRows <= byColumns;
        switch (what) {
            case 0:
                return betweenRows ? 0 : 1;
            case 1:
                return (betweenRows ? rows : columns) / 2;
            default:
                return betweenRows ? byRows : byColumns;
        }
    }

    public int realms() {
        return now.sets();
    }

    public int colours() {
        return now.fewestColours();
    }

    public int rests(int one, int other) {
        return isPair(one, other) ? Integer.bitCount(restBits(one, other)) : NONE;
    }

    public int rest(int one, int other, int k) {
        if (!isPair(one, other) || k < 0) {
            return NONE;
        }
        int bits = restBits(one, other);
        int left = k;
        for (int song = 0; song < 4; song++) {
            if ((bits >> song & 1) != 0) {
                if (left == 0) {
                    return 10 * (song / 2) + song % 2;
                }
                left--;
            }
        }
        return NOT_SO;
    }

    /** Bits in the order of the RESTS: twice the first one's and the second one's. */
    private int restBits(int one, int other) {
        int bits = 0;
        for (int song = 0; song < 4; song++) {
            if (isRest(one, other, song / 2, song % 2)) {
                bits |= 1 << song;
            }
        }
        return bits;
    }

    private boolean isRest(int one, int other, int first, int second) {
        int shared = now.shared(one, other);
        int area = now.area(one);
        int otherArea = now.area(other);
        return sung(shared, area, first, second) >= sung(shared, area, 1 - first, second)
            && sung(shared, otherArea, second, first) >= sung(shared, otherArea, 1 - second, first);
    }

    private static int sung(int shared, int ownArea, int own, int others) {
        if (own == 0) {
            return others == 0 ? -shared : shared;
        }
        return others == 0 ? -(ownArea / 10) : shared / 2;
    }

    public long dry(int n, int what) {
        if (n < 0 || n > 6 || what < 0 || what > 1) {
            return NONE;
        }
        int base = (what == 0 ? 100 - told.rain : 100) / commonWithHundred(100 - told.rain);
        long power = 1;
        for (int k = 0; k < n; k++) {
            power *= base;
        }
        return power;
    }

    private static int commonWithHundred(int number) {
        for (int divisor = 100; divisor > 1; divisor--) {
            if (number % divisor == 0 && 100 % divisor == 0) {
                return divisor;
            }
        }
        return 1;
    }

    public int see(int years, int parish, int row, int column, boolean is) {
        if (years < 1 || years > Seen.LAST_SEEN_YEAR || !isParish(parish) || !isCell(row, column)) {
            return NONE;
        }
        return seen.addSight(years, parish, row, column, is);
    }

    public int strike(int seen) {
        return this.seen.addStrike(seen);
    }

    public boolean known(int n) {
        return seen.limit(n);
    }

    public int legsOf(int child) {
        return isChild(child) ? guess.legsLeft(child) : NONE;
    }

    public int ask(int child, int parish, int what) {
        if (!isChild(child) || !isParish(parish) || what < 0 || what > 1) {
            return NONE;
        }
        guess.seekCell(child, parish, guess.legsLeft(child));
        return what == 0 ? guess.askedCell : guess.leftAtWorst;
    }

    public int chance(int seed, int n, int parish, int area) {
        if (seed < 0 || n < 1 || n > 99 || !isParish(parish) || area < 0 || area > 9999) {
            return NONE;
        }
        int reached = 0;
        long number = seed;
        for (int k = 0; k < 10; k++) {
            later.become(now);
            later.stonesOnly = true;
            later.number = number;
            years.pass(later, n, BY_NUMBERS);
            number = later.number;
            if (later.area(parish) >= area) {
                reached++;
            }
        }
        return reached;
    }

    public int tried(int what, int i, int n) {
        if (what < 0 || what > 4 || n < 0 || n > MAX_YEARS || (what == 2 ? !isChild(i) : i != 0)) {
            return NONE;
        }
        later.become(now);
        later.stonesOnly = true;
        if (what == 2) {
            later.unled = i;
        } else if (what == 3) {
            Arrays.fill(later.cake, 0);
        } else if (what == 4) {
            later.tireless = true;
            Arrays.fill(later.tired, 0);
        }
        years.pass(later, n, what == 0 ? ALL_DRY : what == 1 ? ALL_WET : AS_IT_GOES);
        return later.allAreas();
    }

    public int undo() {
        return deeds.takeBack(now);
    }

    public int keep() {
        image.become(now);
        imaged = true;
        return now.year;
    }

    public int back() {
        if (!imaged) {
            return NONE;
        }
        now.become(image);
        deeds.forget();
        return now.year;
    }

    public int count(int what) {
        switch (what) {
            case 0:
                return told.parishes;
            case 1:
                return told.children;
            case 2:
                return told.beatings;
            case 3:
                return told.size;
            case 4:
                return told.laws.used;
            case 5:
                return now.year;
            case 6:
                return now.quarrel;
            case 7:
                return now.allAreas();
            case 8:
                return now.allShared();
            case 9:
                return now.allLegs();
            case 10:
                return seen.entries;
            case 11:
                return seen.knownEntries();
            case 12:
                return deeds.held;
            default:
                return NONE;
        }
    }

    private boolean isParish(int parish) {
        return parish >= 0 && parish < told.parishes;
    }

    private boolean isPair(int one, int other) {
        return isParish(one) && isParish(other) && one != other;
    }

    private boolean isChild(int child) {
        return child >= 0 && child < told.children;
    }

    private static boolean isWay(int way) {
        return way >= 0 && way < WAYS;
    }

    private boolean isCell(int row, int column) {
        return row >= 0 && row < told.size && column >= 0 && column < told.size;
    }

    /** Cuts the tape's bytes into tokens, and holds the first fault that was found. */
    private static final class Tokens {
        // Tokens 0 .. 20 are the words of the language, in the order of LINE_WORDS, then of LAW_WORDS.
        static final int LAND = 0;
        static final int PARISH = 1;
        static final int CHILD = 2;
        static final int BEAT = 3;
        static final int CAKE = 4;
        static final int RAIN = 5;
        static final int SEED = 6;
        static final int LAW = 7;
        static final int FIRST_RULE = 8;
        static final int LAST_RULE = 10;
        static final int OR = 11;
        static final int AND = 12;
        static final int NOT = 13;
        static final int FIRST_NAME = 14;
        static final int LAST_NAME = 20;
        static final int WORD = 21;
        static final int NUMBER = 22;
        static final int SEMICOLON = 23;
        static final int OPEN = 24;
        static final int CLOSE = 25;
        static final int PLUS = 26;
        static final int MINUS = 27;
        static final int TIMES = 28;
        static final int BY = 29;
        static final int LESS = 30;
        static final int NOT_ABOVE = 31;
        static final int EQUAL = 32;
        static final int UNLIKE = 33;
        static final int NOT_BELOW = 34;
        static final int ABOVE = 35;
        static final int WRONG = 36;
        static final int END = 37;

        static final int LETTERS = 6;
        static final int LANGUAGE_WORDS = 21;
        static final int FIRST_LAW_WORD = OR;
        static final String LINE_WORDS = "land  parishchild beat  cake  rain  seed  law   walk  quarl grow  ";
        static final String LAW_WORDS = "or    and   not   legs  mood  tired sweet wet   far   year  ";
        // Far above each number that the language allows, so that more digits needn't be added up.
        static final int HUGE = 1000000;

        final byte[] bytes;
        final int[] words;
        int length;
        int at;
        int kind;
        int place;
        int value;
        int fault;
        int faultPlace;

        Tokens(byte[] bytes) {
            this.bytes = bytes;
            words = new int[LANGUAGE_WORDS];
            for (int word = 0; word < LANGUAGE_WORDS; word++) {
                boolean ofLaws = word >= FIRST_LAW_WORD;
                words[word] = packedWord(ofLaws ? LAW_WORDS : LINE_WORDS, ofLaws ? word - FIRST_LAW_WORD : word);
            }
            faultPlace = NONE;
        }

        void start(int n) {
            length = Math.min(n, bytes.length);
            at = 0;
            fault = 0;
            faultPlace = NONE;
            step();
        }

        boolean fail(int which) {
            fault = which;
            faultPlace = place;
            return false;
        }

        boolean failAt(int which, int where) {
            fault = which;
            faultPlace = where;
            return false;
        }

        void step() {
            while (at < length && (byteAt(at) == 32 || byteAt(at) == 10)) {
                at++;
            }
            place = at;
            value = 0;
            int first = byteAt(at);
            if (at >= length) {
                kind = END;
            } else if (isLetter(first)) {
                kind = wordKind();
            } else if (isDigit(first)) {
                kind = numberKind();
            } else {
                at++;
                kind = signKind(first);
            }
        }

        int byteAt(int i) {
            return i >= 0 && i < length && i < bytes.length ? bytes[i] & 255 : 0;
        }

        static boolean isLetter(int sign) {
            return sign >= 'a' && sign <= 'z';
        }

        static boolean isDigit(int sign) {
            return sign >= '0' && sign <= '9';
        }

        int wordKind() {
            int letters = 0;
            while (at < length && isLetter(byteAt(at))) {
                if (letters < LETTERS) {
                    value |= packed(byteAt(at), letters);
                }
                letters++;
                at++;
            }
            if (letters > LETTERS) {
                return WRONG;
            }
            for (int word = 0; word < LANGUAGE_WORDS; word++) {
                if (words[word] == value) {
                    return word;
                }
            }
            return WORD;
        }

        static int packed(int letter, int position) {
            return letter - 'a' + 1 << 5 * (LETTERS - 1 - position);
        }

        static int packedWord(String words, int word) {
            int letters = 0;
            for (int k = 0; k < LETTERS && LETTERS * word + k < words.length(); k++) {
                char letter = words.charAt(LETTERS * word + k);
                if (letter != ' ') {
                    letters |= packed(letter, k);
                }
            }
            return letters;
        }

        int numberKind() {
            while (at < length && isDigit(byteAt(at))) {
                if (value < HUGE) {
                    value = 10 * value + byteAt(at) - '0';
                }
                at++;
            }
            return NUMBER;
        }

        int signKind(int first) {
            int second = byteAt(at);
            switch (first) {
                case ';':
                    return SEMICOLON;
                case '(':
                    return OPEN;
                case ')':
                    return CLOSE;
                case '+':
                    return PLUS;
                case '-':
                    return MINUS;
                case '*':
                    return TIMES;
                case '/':
                    return BY;
                case '=':
                    return EQUAL;
                case '<':
                    if (second != '=' && second != '>') {
                        return LESS;
                    }
                    at++;
                    return second == '=' ? NOT_ABOVE : UNLIKE;
                case '>':
                    if (second != '=') {
                        return ABOVE;
                    }
                    at++;
                    return NOT_BELOW;
                default:
                    return WRONG;
            }
        }
    }

    /** The laws, each as its knots with both sides ahead of what joins them: no tree is walked to work one out. */
    private static final class Laws {
        static final int RULES = 3;
        static final int MAX_KNOTS = 64;
        static final long LIMIT = 1000000000000L;

        // A number of E is itself; any other knot is its token below 0.
        final int[] knots;
        final int[] start;
        final int[] end;
        final long[] stack;
        int used;

        Laws() {
            knots = new int[MAX_KNOTS];
            start = new int[RULES];
            end = new int[RULES];
            stack = new long[MAX_KNOTS];
        }

        void clear() {
            used = 0;
            Arrays.fill(start, 0);
            Arrays.fill(end, 0);
        }

        void take(Laws other) {
            used = other.used;
            System.arraycopy(other.knots, 0, knots, 0, MAX_KNOTS);
            System.arraycopy(other.start, 0, start, 0, RULES);
            System.arraycopy(other.end, 0, end, 0, RULES);
        }

        boolean isTold(int rule) {
            return end[rule] > start[rule];
        }

        void put(int knot) {
            if (used < MAX_KNOTS) {
                knots[used] = knot;
                used++;
            }
        }

        /** ERROR also where the law isn't told: both are answered alike everywhere. */
        long work(int rule, long[] names) {
            int top = 0;
            for (int k = start[rule]; k < end[rule]; k++) {
                int knot = knots[k];
                int token = -knot;
                if (knot >= 0 || isName(token)) {
                    if (top >= MAX_KNOTS) {
                        return ERROR;
                    }
                    stack[top] = knot >= 0 ? knot : names[token - Tokens.FIRST_NAME];
                    top++;
                } else if (token == Tokens.NOT && top >= 1) {
                    stack[top - 1] = stack[top - 1] == 0 ? 1 : 0;
                } else if (top >= 2) {
                    top--;
                    long value = joined(token, stack[top - 1], stack[top]);
                    // ERROR itself lies below the limit, too.
                    if (value > LIMIT || value < -LIMIT) {
                        return ERROR;
                    }
                    stack[top - 1] = value;
                } else {
                    return ERROR;
                }
            }
            return top == 1 ? stack[0] : ERROR;
        }

        static boolean isName(int token) {
            return token >= Tokens.FIRST_NAME && token <= Tokens.LAST_NAME;
        }

        static long joined(int token, long a, long b) {
            switch (token) {
                case Tokens.OR:
                    return a != 0 || b != 0 ? 1 : 0;
                case Tokens.AND:
                    return a != 0 && b != 0 ? 1 : 0;
                case Tokens.LESS:
                    return a < b ? 1 : 0;
                case Tokens.NOT_ABOVE:
                    return a <= b ? 1 : 0;
                case Tokens.EQUAL:
                    return a == b ? 1 : 0;
                case Tokens.UNLIKE:
                    return a != b ? 1 : 0;
                case Tokens.NOT_BELOW:
                    return a >= b ? 1 : 0;
                case Tokens.ABOVE:
                    return a > b ? 1 : 0;
                case Tokens.PLUS:
                    return a + b;
                case Tokens.MINUS:
                    return a - b;
                case Tokens.TIMES:
                    // Looked at ahead: the product of two values may not fit a long.
                    long most = a == 0 ? LIMIT : LIMIT / (a < 0 ? -a : a);
                    return b > most || b < -most ? ERROR : a * b;
                case Tokens.BY:
                    return b == 0 ? ERROR : a / b;
                default:
                    return ERROR;
            }
        }
    }

    /** Reads an E by ranks of signs with a row of signs that wait, so that no depth of calls is needed. */
    private static final class Sums {
        static final int MAX_OPEN = 8;
        static final int MAX_NUMBER = 9999;
        static final int RANK_NOT = 3;
        static final int RANK_COMPARED = 4;

        final Tokens tokens;
        final int[] waiting;
        int waits;
        int open;
        int counted;

        Sums(Tokens tokens) {
            this.tokens = tokens;
            waiting = new int[Laws.MAX_KNOTS + MAX_OPEN];
        }

        boolean reads(Laws laws, int rule) {
            laws.start[rule] = laws.used;
            counted = laws.used;
            waits = 0;
            open = 0;
            boolean wantsPart = true;
            for (int k = 0; k <= MAX_TAPE; k++) {
                int kind = tokens.kind;
                if (!wantsPart && kind == Tokens.SEMICOLON && open == 0) {
                    settle(laws, 0);
                    laws.end[rule] = laws.used;
                    return true;
                }
                if (!(wantsPart ? startsPart(laws) : followsPart(laws))) {
                    return false;
                }
                boolean wasPart = kind == Tokens.NUMBER || Laws.isName(kind) || kind == Tokens.CLOSE;
                wantsPart = !wasPart;
                tokens.step();
            }
            return tokens.fail(1);
        }

        boolean startsPart(Laws laws) {
            int kind = tokens.kind;
            if (kind == Tokens.NUMBER) {
                return tokens.value > MAX_NUMBER ? tokens.fail(2) : counts() && puts(laws, tokens.value);
            }
            if (Laws.isName(kind)) {
                return counts() && puts(laws, -kind);
            }
            if (kind == Tokens.NOT) {
                // Behind a comparison or a sign of sums only a P may stand.
                return topRank() > RANK_NOT ? tokens.fail(1) : counts() && pushes(kind);
            }
            if (kind != Tokens.OPEN) {
                return tokens.fail(1);
            }
            if (open >= MAX_OPEN) {
                return tokens.fail(2);
            }
            open++;
            return pushes(kind);
        }

        boolean followsPart(Laws laws) {
            int kind = tokens.kind;
            if (kind == Tokens.CLOSE && open > 0) {
                settle(laws, 1);
                waits--;
                open--;
                return true;
            }
            int rank = rank(kind);
            if (rank == 0 || kind == Tokens.NOT) {
                return tokens.fail(1);
            }
            settle(laws, rank == RANK_COMPARED ? rank + 1 : rank);
            if (rank == RANK_COMPARED && topRank() == RANK_COMPARED) {
                return tokens.fail(1);
            }
            return counts() && pushes(kind);
        }

        /** Counted as they stand in the text: a sign that waits is put only later. */
        boolean counts() {
            if (counted >= Laws.MAX_KNOTS) {
                return tokens.fail(2);
            }
            counted++;
            return true;
        }

        boolean puts(Laws laws, int knot) {
            laws.put(knot);
            return true;
        }

        boolean pushes(int kind) {
            if (waits >= waiting.length) {
                return tokens.fail(2);
            }
            waiting[waits] = kind;
            waits++;
            return true;
        }

        /** An open bracket has rank 0, and so holds back what waits ahead of it. */
        void settle(Laws laws, int leastRank) {
            int least = Math.max(leastRank, 1);
            while (waits > 0 && waits <= waiting.length && rank(waiting[waits - 1]) >= least) {
                waits--;
                laws.put(-waiting[waits]);
            }
        }

        int topRank() {
            return waits > 0 && waits <= waiting.length ? rank(waiting[waits - 1]) : 0;
        }

        /** 0 for all that joins nothing. */
        static int rank(int kind) {
            switch (kind) {
                case Tokens.OR:
                    return 1;
                case Tokens.AND:
                    return 2;
                case Tokens.NOT:
                    return RANK_NOT;
                case Tokens.PLUS:
                case Tokens.MINUS:
                    return 5;
                case Tokens.TIMES:
                case Tokens.BY:
                    return 6;
                default:
                    return kind >= Tokens.LESS && kind <= Tokens.ABOVE ? RANK_COMPARED : 0;
            }
        }
    }

    /** What a text tells; nothing of it changes till the next text. */
    private static final class Told {
        int size;
        int lines;
        int parishes;
        int children;
        int beatings;
        int lastBeating;
        int rain;
        int seed;
        final int[] row;
        final int[] column;
        final int[] parishName;
        final int[] legs;
        final int[] mood;
        final int[] childName;
        final int[] beatSlot;
        final int[] beatChild;
        final int[] beatYear;
        final int[] cake;
        final Laws laws;

        Told() {
            size = 20;
            lastBeating = NONE;
            row = new int[MAX_PARISHES];
            column = new int[MAX_PARISHES];
            parishName = new int[MAX_PARISHES];
            legs = new int[MAX_CHILDREN];
            mood = new int[MAX_CHILDREN];
            childName = new int[MAX_CHILDREN];
            beatSlot = new int[MAX_BEATINGS];
            beatChild = new int[MAX_BEATINGS];
            beatYear = new int[MAX_BEATINGS];
            cake = new int[WAYS * MAX_PARISHES];
            laws = new Laws();
        }

        void clear() {
            size = 20;
            lines = 0;
            parishes = 0;
            children = 0;
            beatings = 0;
            lastBeating = NONE;
            rain = 0;
            seed = 0;
            Arrays.fill(cake, 0);
            laws.clear();
        }

        void take(Told other) {
            size = other.size;
            lines = other.lines;
            parishes = other.parishes;
            children = other.children;
            beatings = other.beatings;
            lastBeating = other.lastBeating;
            rain = other.rain;
            seed = other.seed;
            System.arraycopy(other.row, 0, row, 0, MAX_PARISHES);
            System.arraycopy(other.column, 0, column, 0, MAX_PARISHES);
            System.arraycopy(other.parishName, 0, parishName, 0, MAX_PARISHES);
            System.arraycopy(other.legs, 0, legs, 0, MAX_CHILDREN);
            System.arraycopy(other.mood, 0, mood, 0, MAX_CHILDREN);
            System.arraycopy(other.childName, 0, childName, 0, MAX_CHILDREN);
            System.arraycopy(other.beatSlot, 0, beatSlot, 0, MAX_BEATINGS);
            System.arraycopy(other.beatChild, 0, beatChild, 0, MAX_BEATINGS);
            System.arraycopy(other.beatYear, 0, beatYear, 0, MAX_BEATINGS);
            System.arraycopy(other.cake, 0, cake, 0, WAYS * MAX_PARISHES);
            laws.take(other.laws);
        }

        int parishNamed(int letters) {
            return placeOf(letters, parishName, parishes);
        }

        int childNamed(int letters) {
            return placeOf(letters, childName, children);
        }

        static int placeOf(int letters, int[] names, int n) {
            for (int k = 0; k < n && k < names.length; k++) {
                if (names[k] == letters) {
                    return k;
                }
            }
            return NONE;
        }

        boolean hasChurch(int atRow, int atColumn) {
            for (int k = 0; k < parishes; k++) {
                if (row[k] == atRow && column[k] == atColumn) {
                    return true;
                }
            }
            return false;
        }

        int edge(int parish, int way) {
            switch (way) {
                case 0:
                    return row[parish];
                case 1:
                    return size - 1 - column[parish];
                case 2:
                    return size - 1 - row[parish];
                default:
                    return column[parish];
            }
        }
    }

    /** Reads a text into a draft, token by token, so that the first fault found is the first along the text. */
    private static final class Reader {
        final Tokens tokens;
        final Sums sums;
        final Told draft;
        boolean rainTold;
        boolean seedTold;

        Reader(byte[] bytes) {
            tokens = new Tokens(bytes);
            sums = new Sums(tokens);
            draft = new Told();
        }

        boolean reads(int n) {
            draft.clear();
            rainTold = false;
            seedTold = false;
            tokens.start(n);
            for (int k = 0; k <= MAX_TAPE && tokens.kind != Tokens.END; k++) {
                if (!line() || !ends()) {
                    return false;
                }
                draft.lines++;
            }
            return true;
        }

        boolean line() {
            switch (tokens.kind) {
                case Tokens.LAND:
                    return landLine();
                case Tokens.PARISH:
                    return parishLine();
                case Tokens.CHILD:
                    return childLine();
                case Tokens.BEAT:
                    return beatLine();
                case Tokens.CAKE:
                    return cakeLine();
                case Tokens.RAIN:
                    return rainLine();
                case Tokens.SEED:
                    return seedLine();
                case Tokens.LAW:
                    return lawLine();
                default:
                    return tokens.fail(1);
            }
        }

        boolean ends() {
            if (tokens.kind != Tokens.SEMICOLON) {
                return tokens.fail(1);
            }
            tokens.step();
            return true;
        }

        /** NONE with a fault. */
        int number(int least, int most) {
            if (tokens.kind != Tokens.NUMBER) {
                tokens.fail(1);
                return NONE;
            }
            int value = tokens.value;
            if (value < least || value > most) {
                tokens.fail(2);
                return NONE;
            }
            tokens.step();
            return value;
        }

        /** 0, which is no name's letters, with a fault. */
        int newName(boolean ofParish) {
            if (tokens.kind != Tokens.WORD) {
                tokens.fail(1);
                return 0;
            }
            int letters = tokens.value;
            if ((ofParish ? draft.parishNamed(letters) : draft.childNamed(letters)) != NONE) {
                tokens.fail(3);
                return 0;
            }
            tokens.step();
            return letters;
        }

        /** NONE with a fault. */
        int toldName(boolean ofParish) {
            if (tokens.kind != Tokens.WORD) {
                tokens.fail(1);
                return NONE;
            }
            int found = ofParish ? draft.parishNamed(tokens.value) : draft.childNamed(tokens.value);
            if (found == NONE) {
                tokens.fail(4);
                return NONE;
            }
            tokens.step();
            return found;
        }

        boolean landLine() {
            if (draft.lines > 0) {
                return tokens.fail(1);
            }
            tokens.step();
            int size = number(5, MAX_SIZE);
            if (size == NONE) {
                return false;
            }
            draft.size = size;
            return true;
        }

        boolean parishLine() {
            int parish = draft.parishes;
            if (parish >= MAX_PARISHES) {
                return tokens.fail(2);
            }
            tokens.step();
            int letters = newName(true);
            int row = letters == 0 ? NONE : number(0, draft.size - 1);
            int columnPlace = tokens.place;
            int column = row == NONE ? NONE : number(0, draft.size - 1);
            if (column == NONE) {
                return false;
            }
            if (draft.hasChurch(row, column)) {
                return tokens.failAt(3, columnPlace);
            }
            draft.parishName[parish] = letters;
            draft.row[parish] = row;
            draft.column[parish] = column;
            draft.parishes++;
            return true;
        }

        boolean childLine() {
            int child = draft.children;
            if (child >= MAX_CHILDREN) {
                return tokens.fail(2);
            }
            tokens.step();
            int letters = newName(false);
            int legs = letters == 0 ? NONE : number(1, 30);
            int mood = legs == NONE ? NONE : number(0, 9);
            if (mood == NONE) {
                return false;
            }
            draft.childName[child] = letters;
            draft.legs[child] = legs;
            draft.mood[child] = mood;
            draft.children++;
            return true;
        }

        boolean beatLine() {
            int beating = draft.beatings;
            if (beating >= MAX_BEATINGS) {
                return tokens.fail(2);
            }
            tokens.step();
            int parish = toldName(true);
            int child = parish == NONE ? NONE : toldName(false);
            int way = child == NONE ? NONE : number(0, WAYS - 1);
            int year = way == NONE ? NONE : number(0, 99);
            if (year == NONE) {
                return false;
            }
            draft.beatSlot[beating] = WAYS * parish + way;
            draft.beatChild[beating] = child;
            draft.beatYear[beating] = year;
            draft.lastBeating = Math.max(draft.lastBeating, year);
            draft.beatings++;
            return true;
        }

        boolean cakeLine() {
            tokens.step();
            int parish = toldName(true);
            int wayPlace = tokens.place;
            int way = parish == NONE ? NONE : number(0, WAYS - 1);
            if (way == NONE) {
                return false;
            }
            int slot = WAYS * parish + way;
            if (draft.cake[slot] != 0) {
                return tokens.failAt(3, wayPlace);
            }
            int size = number(1, 9);
            if (size == NONE) {
                return false;
            }
            draft.cake[slot] = size;
            return true;
        }

        boolean rainLine() {
            if (rainTold) {
                return tokens.fail(3);
            }
            tokens.step();
            int rain = number(0, 100);
            if (rain == NONE) {
                return false;
            }
            draft.rain = rain;
            rainTold = true;
            return true;
        }

        boolean seedLine() {
            if (seedTold) {
                return tokens.fail(3);
            }
            tokens.step();
            int seed = number(0, 99999);
            if (seed == NONE) {
                return false;
            }
            draft.seed = seed;
            seedTold = true;
            return true;
        }

        boolean lawLine() {
            tokens.step();
            if (tokens.kind < Tokens.FIRST_RULE || tokens.kind > Tokens.LAST_RULE) {
                return tokens.fail(1);
            }
            int rule = tokens.kind - Tokens.FIRST_RULE;
            if (draft.laws.isTold(rule)) {
                return tokens.fail(3);
            }
            tokens.step();
            return sums.reads(draft.laws, rule);
        }
    }

    /** The land in some year, and what its stones make of it. */
    private static final class Land {
        final Told told;
        final int[] far;
        final int[] cake;
        final int[] legs;
        final int[] tired;
        int quarrel;
        int year;
        long number;
        // The last three are for lands on which something is tried. Nothing that moves stones hangs on
        // QUARREL or on years behind the last beating: a land asked for its stones only spares both.
        int unled;
        boolean tireless;
        boolean stonesOnly;

        Land(Told told) {
            this.told = told;
            far = new int[WAYS * MAX_PARISHES];
            cake = new int[WAYS * MAX_PARISHES];
            legs = new int[MAX_CHILDREN];
            tired = new int[MAX_CHILDREN];
            unled = NONE;
        }

        void begin() {
            Arrays.fill(far, 0);
            Arrays.fill(tired, 0);
            System.arraycopy(told.cake, 0, cake, 0, cake.length);
            System.arraycopy(told.legs, 0, legs, 0, legs.length);
            quarrel = 0;
            year = 0;
            number = told.seed;
            unled = NONE;
            tireless = false;
            stonesOnly = false;
        }

        void become(Land other) {
            System.arraycopy(other.far, 0, far, 0, far.length);
            System.arraycopy(other.tired, 0, tired, 0, tired.length);
            System.arraycopy(other.cake, 0, cake, 0, cake.length);
            System.arraycopy(other.legs, 0, legs, 0, legs.length);
            quarrel = other.quarrel;
            year = other.year;
            number = other.number;
            unled = NONE;
            tireless = false;
            stonesOnly = false;
        }

        int top(int parish) {
            return told.row[parish] - far[WAYS * parish];
        }

        int right(int parish) {
            return told.column[parish] + far[WAYS * parish + 1];
        }

        int bottom(int parish) {
            return told.row[parish] + far[WAYS * parish + 2];
        }

        int left(int parish) {
            return told.column[parish] - far[WAYS * parish + 3];
        }

        int area(int parish) {
            return (bottom(parish) - top(parish) + 1) * (right(parish) - left(parish) + 1);
        }

        boolean holds(int parish, int row, int column) {
            return row >= top(parish) && row <= bottom(parish)
                && column >= left(parish) && column <= right(parish);
        }

        int holders(int row, int column) {
            int bits = 0;
            for (int parish = 0; parish < told.parishes; parish++) {
                if (holds(parish, row, column)) {
                    bits |= 1 << parish;
                }
            }
            return bits;
        }

        int cellsOfAtLeast(int least) {
            int cells = 0;
            for (int row = 0; row < told.size; row++) {
                for (int column = 0; column < told.size; column++) {
                    if (Integer.bitCount(holders(row, column)) >= least) {
                        cells++;
                    }
                }
            }
            return cells;
        }

        /** 0 where they lie side by side, below 0 where there is a gap. */
        int commonRows(int one, int other) {
            return Math.min(bottom(one), bottom(other)) - Math.max(top(one), top(other)) + 1;
        }

        int commonColumns(int one, int other) {
            return Math.min(right(one), right(other)) - Math.max(left(one), left(other)) + 1;
        }

        int shared(int one, int other) {
            return Math.max(commonRows(one, other), 0) * Math.max(commonColumns(one, other), 0);
        }

        boolean touch(int one, int other) {
            int rows = commonRows(one, other);
            int columns = commonColumns(one, other);
            // Corner to corner is not side by side.
            return rows >= 0 && columns >= 0 && rows + columns > 0;
        }

        int touched(int parish) {
            int bits = 0;
            for (int other = 0; other < told.parishes; other++) {
                if (other != parish && touch(parish, other)) {
                    bits |= 1 << other;
                }
            }
            return bits;
        }

        int allAreas() {
            int sum = 0;
            for (int parish = 0; parish < told.parishes; parish++) {
                sum += area(parish);
            }
            return sum;
        }

        int allShared() {
            int sum = 0;
            for (int one = 0; one < told.parishes; one++) {
                for (int other = one + 1; other < told.parishes; other++) {
                    sum += shared(one, other);
                }
            }
            return sum;
        }

        int allLegs() {
            int sum = 0;
            for (int child = 0; child < told.children; child++) {
                sum += legs[child];
            }
            return sum;
        }

        int sets() {
            int found = 0;
            for (int parish = 0; parish < told.parishes; parish++) {
                // Each set is counted at its first parish.
                if ((hangingWith(parish) & (1 << parish) - 1) == 0) {
                    found++;
                }
            }
            return found;
        }

        int hangingWith(int parish) {
            int bits = 1 << parish;
            for (int steps = 0; steps < told.parishes; steps++) {
                for (int other = 0; other < told.parishes; other++) {
                    if ((bits >> other & 1) != 0) {
                        bits |= touched(other);
                    }
                }
            }
            return bits;
        }

        int fewestColours() {
            for (int colours = 0; colours < told.parishes; colours++) {
                for (int painted = 0; painted < 1 << 2 * told.parishes; painted++) {
                    if (isPainted(painted, colours)) {
                        return colours;
                    }
                }
            }
            return told.parishes;
        }

        /** Two bits of painted for the colour of each parish. */
        boolean isPainted(int painted, int colours) {
            for (int one = 0; one < told.parishes; one++) {
                int colour = painted >> 2 * one & 3;
                if (colour >= colours) {
                    return false;
                }
                for (int other = 0; other < one; other++) {
                    if (colour == (painted >> 2 * other & 3) && touch(one, other)) {
                        return false;
                    }
                }
            }
            return true;
        }
    }

    /** How years go by on a land, by the laws that are told. */
    private static final class Years {
        final Told told;
        final long[] names;

        Years(Told told) {
            this.told = told;
            names = new long[Tokens.LAST_NAME - Tokens.FIRST_NAME + 1];
        }

        void pass(Land land, int n, int weather) {
            for (int k = 0; k < n; k++) {
                passOne(land, isWet(land, weather));
            }
        }

        boolean wetAsItGoes() {
            return told.rain >= 50;
        }

        boolean isWet(Land land, int weather) {
            switch (weather) {
                case BY_NUMBERS:
                    return told.rain == 100 || told.rain > 0 && drawn(land) % 100 < told.rain;
                case ALL_DRY:
                    return false;
                case ALL_WET:
                    return true;
                default:
                    return wetAsItGoes();
            }
        }

        static long drawn(Land land) {
            land.number = land.number * 1103515245L + 12345L & 0x7fffffffL;
            return land.number / 65536;
        }

        void passOne(Land land, boolean wet) {
            if (land.stonesOnly && land.year > told.lastBeating) {
                land.year++;
                return;
            }
            for (int beating = 0; beating < told.beatings; beating++) {
                int child = told.beatChild[beating];
                if (told.beatYear[beating] == land.year && child != land.unled) {
                    lead(land, child, told.beatSlot[beating], wet);
                }
            }
            if (!land.stonesOnly) {
                quarrelAll(land, wet);
            }
            for (int child = 0; child < told.children; child++) {
                land.tired[child] = Math.max(land.tired[child] - 1, 0);
                long more = grow(land, child, wet);
                if (more != ERROR) {
                    land.legs[child] = within(land.legs[child] + within(more, -9, 9), 0, 30);
                }
            }
            land.year++;
        }

        static int within(long value, int least, int most) {
            return (int) Math.max(least, Math.min(most, value));
        }

        void lead(Land land, int child, int slot, boolean wet) {
            int sweet = land.cake[slot];
            long law = walk(land, child, slot, sweet, wet);
            land.far[slot] = stoneFar(law, land.legs[child] + sweet - land.tired[child], slot, wet);
            if (!land.tireless) {
                land.tired[child] = Math.min(land.tired[child] + 1, 99);
            }
        }

        /** How far one comes by what the law answered, or without it by one's strength. */
        int stoneFar(long law, int strength, int slot, boolean wet) {
            int unbound = wet ? Math.max(strength, 0) / 2 : Math.max(strength, 0);
            int far = law == ERROR ? unbound : within(law, 0, 99);
            return Math.min(far, told.edge(slot / WAYS, slot % WAYS));
        }

        /** How far one would come now with a cake of such a size. */
        int walkedFar(Land land, int child, int slot, int sweet) {
            boolean wet = wetAsItGoes();
            long law = walk(land, child, slot, sweet, wet);
            return stoneFar(law, land.legs[child] + sweet - land.tired[child], slot, wet);
        }

        void quarrelAll(Land land, boolean wet) {
            for (int one = 0; one < told.parishes; one++) {
                for (int other = one + 1; other < told.parishes; other++) {
                    int shared = land.shared(one, other);
                    if (shared > 0) {
                        long more = quarl(land, shared, wet);
                        int added = more == ERROR ? shared : within(more, 0, 999);
                        land.quarrel = Math.min(land.quarrel + added, 99999);
                    }
                }
            }
        }

        long walk(Land land, int child, int slot, int sweet, boolean wet) {
            ofChild(land, child);
            ofYear(land, sweet, wet, land.far[slot]);
            return told.laws.work(WALK, names);
        }

        long quarl(Land land, int shared, boolean wet) {
            names[0] = 0;
            names[1] = 0;
            names[2] = 0;
            ofYear(land, 0, wet, shared);
            return told.laws.work(QUARL, names);
        }

        long grow(Land land, int child, boolean wet) {
            ofChild(land, child);
            ofYear(land, 0, wet, 0);
            return told.laws.work(GROW, names);
        }

        /** The names stand in the order of the language: legs mood tired sweet wet far year. */
        void ofChild(Land land, int child) {
            names[0] = land.legs[child];
            names[1] = told.mood[child];
            names[2] = land.tired[child];
        }

        void ofYear(Land land, int sweet, boolean wet, int far) {
            names[3] = sweet;
            names[4] = wet ? 1 : 0;
            names[5] = far;
            names[6] = land.year;
        }
    }

    /** The latest deeds by call, each as what was so ahead of it. */
    private static final class Deeds {
        static final int MOST = 20;

        final int[] slot;
        final int[] far;
        final int[] cake;
        final int[] child;
        final int[] tired;
        int oldest;
        int held;

        Deeds() {
            slot = new int[MOST];
            far = new int[MOST];
            cake = new int[MOST];
            child = new int[MOST];
            tired = new int[MOST];
        }

        void forget() {
            held = 0;
        }

        /** ledChild is NONE where nobody is led. */
        void note(Land land, int atSlot, int ledChild) {
            int k = (oldest + held) % MOST;
            slot[k] = atSlot;
            far[k] = land.far[atSlot];
            cake[k] = land.cake[atSlot];
            child[k] = ledChild;
            tired[k] = ledChild == NONE ? 0 : land.tired[ledChild];
            if (held < MOST) {
                held++;
            } else {
                oldest = (oldest + 1) % MOST;
            }
        }

        int takeBack(Land land) {
            if (held == 0) {
                return NONE;
            }
            held--;
            int k = (oldest + held) % MOST;
            land.far[slot[k]] = far[k];
            land.cake[slot[k]] = cake[k];
            if (child[k] != NONE) {
                land.tired[child[k]] = tired[k];
            }
            return held;
        }
    }

    /** What was seen, and what strikes it. */
    private static final class Seen {
        static final int MOST = 24;
        static final int LAST_SEEN_YEAR = 60;

        // NONE for a sight, else the number of what it strikes.
        final int[] strikes;
        final int[] year;
        final int[] parish;
        final int[] row;
        final int[] column;
        final boolean[] is;
        final boolean[] counts;
        int entries;
        int knownBy;

        Seen() {
            strikes = new int[MOST];
            year = new int[MOST];
            parish = new int[MOST];
            row = new int[MOST];
            column = new int[MOST];
            is = new boolean[MOST];
            counts = new boolean[MOST];
            knownBy = NONE;
        }

        void forget() {
            entries = 0;
            knownBy = NONE;
        }

        int addSight(int atYear, int ofParish, int atRow, int atColumn, boolean was) {
            if (entries >= MOST) {
                return NONE;
            }
            strikes[entries] = NONE;
            year[entries] = atYear;
            parish[entries] = ofParish;
            row[entries] = atRow;
            column[entries] = atColumn;
            is[entries] = was;
            entries++;
            return entries - 1;
        }

        int addStrike(int struck) {
            if (struck < 0 || struck >= entries || entries >= MOST) {
                return NONE;
            }
            strikes[entries] = struck;
            entries++;
            return entries - 1;
        }

        boolean limit(int n) {
            if (n < NONE || n > entries) {
                return false;
            }
            knownBy = n;
            return true;
        }

        int knownEntries() {
            return knownBy == NONE ? entries : knownBy;
        }

        /** From the last one on: whether an entry counts hangs on later ones alone. */
        void settle() {
            int known = knownEntries();
            for (int k = 0; k < MOST; k++) {
                counts[k] = k < known;
            }
            for (int k = known - 1; k >= 0; k--) {
                if (counts[k] && strikes[k] != NONE) {
                    counts[strikes[k]] = false;
                }
            }
        }

        /** The next year that something counts of, NONE behind the last one. */
        int nextYear(int behind) {
            int next = NONE;
            for (int k = 0; k < entries; k++) {
                boolean later = counts[k] && strikes[k] == NONE && year[k] > behind;
                if (later && (next == NONE || year[k] < next)) {
                    next = year[k];
                }
            }
            return next;
        }

        boolean agrees(Land land) {
            for (int k = 0; k < entries; k++) {
                boolean asked = counts[k] && strikes[k] == NONE && year[k] == land.year;
                if (asked && land.holds(parish[k], row[k], column[k]) != is[k]) {
                    return false;
                }
            }
            return true;
        }
    }

    /** Which legs a child may have had at first, and which cell tells most of them. */
    private static final class Guess {
        static final int MOST_LEGS = 30;
        static final int ASKED_YEARS = 20;

        final Years years;
        final Seen seen;
        final Told told;
        final Land land;
        // Bits of the legs with which the asked parish's land has cells in a row, in a column.
        final int[] inRow;
        final int[] inColumn;
        int askedCell;
        int leftAtWorst;

        Guess(Told told, Years years, Seen seen) {
            this.told = told;
            this.years = years;
            this.seen = seen;
            land = new Land(told);
            inRow = new int[MAX_SIZE];
            inColumn = new int[MAX_SIZE];
        }

        void beginWith(int child, int legs) {
            land.begin();
            land.stonesOnly = true;
            land.legs[child] = legs;
        }

        int legsLeft(int child) {
            seen.settle();
            int bits = 0;
            for (int k = 0; k < MOST_LEGS; k++) {
                beginWith(child, k + 1);
                boolean agrees = true;
                int year = seen.nextYear(0);
                for (int steps = 0; steps < Seen.MOST && agrees && year != NONE; steps++) {
                    years.pass(land, year - land.year, AS_IT_GOES);
                    agrees = seen.agrees(land);
                    year = seen.nextYear(year);
                }
                if (agrees) {
                    bits |= 1 << k;
                }
            }
            return bits;
        }

        void seekCell(int child, int parish, int bits) {
            Arrays.fill(inRow, 0);
            Arrays.fill(inColumn, 0);
            for (int k = 0; k < MOST_LEGS; k++) {
                if ((bits >> k & 1) != 0) {
                    beginWith(child, k + 1);
                    years.pass(land, ASKED_YEARS, AS_IT_GOES);
                    mark(parish, 1 << k);
                }
            }
            leftAtWorst = Integer.MAX_VALUE;
            for (int row = 0; row < told.size; row++) {
                for (int column = 0; column < told.size; column++) {
                    weigh(row, column, Integer.bitCount(bits));
                }
            }
        }

        void mark(int parish, int bit) {
            for (int row = land.top(parish); row <= land.bottom(parish); row++) {
                if (row >= 0 && row < MAX_SIZE) {
                    inRow[row] |= bit;
                }
            }
            for (int column = land.left(parish); column <= land.right(parish); column++) {
                if (column >= 0 && column < MAX_SIZE) {
                    inColumn[column] |= bit;
                }
            }
        }

        void weigh(int row, int column, int all) {
            int holding = Integer.bitCount(inRow[row] & inColumn[column]);
            int worst = Math.max(holding, all - holding);
            if (worst < leftAtWorst) {
                leftAtWorst = worst;
                askedCell = 100 * row + column;
            }
        }
    }

    /** Matches children with ways so that a parish wins most. */
    private static final class Laying {
        final Told told;
        final Years years;
        // For each way how far each child would come, and behind the last child FAR as it is.
        final int[] fars;
        final int[] picked;
        final int[] best;
        int bestArea;

        Laying(Told told, Years years) {
            this.told = told;
            this.years = years;
            fars = new int[WAYS * (MAX_CHILDREN + 1)];
            picked = new int[WAYS];
            best = new int[WAYS];
        }

        void match(Land land, int parish) {
            walkAll(land, parish);
            int choices = told.children + 1;
            int all = choices * choices * choices * choices;
            bestArea = 0;
            // Counted up with way 0 highest and nobody as the highest choice, the first best one is the one due.
            for (int code = 0; code < all; code++) {
                pick(code, choices);
                int area = (1 + farOf(0) + farOf(2)) * (1 + farOf(1) + farOf(3));
                if (area > bestArea && nobodyTwice()) {
                    bestArea = area;
                    keepPicked();
                }
            }
        }

        void walkAll(Land land, int parish) {
            for (int way = 0; way < WAYS; way++) {
                int slot = WAYS * parish + way;
                int first = (MAX_CHILDREN + 1) * way;
                for (int child = 0; child < told.children; child++) {
                    fars[first + child] = years.walkedFar(land, child, slot, land.cake[slot]);
                }
                fars[first + told.children] = land.far[slot];
            }
        }

        void pick(int code, int choices) {
            int rest = code;
            for (int way = WAYS - 1; way >= 0 && choices > 0; way--) {
                picked[way] = rest % choices;
                rest /= choices;
            }
        }

        int farOf(int way) {
            return fars[(MAX_CHILDREN + 1) * way + picked[way]];
        }

        boolean nobodyTwice() {
            int led = 0;
            for (int way = 0; way < WAYS; way++) {
                int bit = picked[way] < told.children ? 1 << picked[way] : 0;
                if ((led & bit) != 0) {
                    return false;
                }
                led |= bit;
            }
            return true;
        }

        void keepPicked() {
            for (int way = 0; way < WAYS; way++) {
                best[way] = picked[way] < told.children ? picked[way] : NOT_SO;
            }
        }
    }
}
