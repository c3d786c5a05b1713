import java.util.NoSuchElementException;

/** A carnival's road: its guests, the bars on their row, the road, and a run on it. */
public final class CarnivalRoad {
    public static final int NONE = -1;

    private static final int MOST_GUESTS = 8;
    private static final int MOST_ROWS = 40320;

    private static final int FLOAT = 0;
    private static final int BAND = 1;
    private static final int HORSE = 2;
    private static final int FOOT = 3;
    private static final int GIANT = 4;

    private static final int FAR = 1;
    private static final int AHEAD = 2;
    private static final int FIRST = 3;
    private static final int LAST = 4;
    private static final int LOUD = 5;
    private static final int KIND = 6;
    private static final int NUMBER = 7;
    private static final int SEMICOLON = 8;
    private static final int TEXT_END = 9;
    private static final int NO_TOKEN = 10;
    private static final int FRIGHT = 11;

    private static final int FAULT_PLACE = 1;
    private static final int FAULT_NUMBER = 2;
    private static final int FAULT_MANY = 3;

    private final Guests guests;
    private final int[] row;
    private final int[] quietest;
    private final Reader reader;
    private Bars bars;
    private Bars spare;
    private final Search search;
    private final Breach breach;
    private final Street street;
    private final Parade parade;
    private final Parade trial;
    private boolean running;

    public CarnivalRoad() {
        guests = new Guests();
        row = new int[MOST_GUESTS];
        quietest = new int[MOST_GUESTS];
        reader = new Reader(guests);
        bars = new Bars(guests);
        spare = new Bars(guests);
        search = new Search(guests);
        breach = new Breach();
        street = new Street();
        parade = new Parade(guests, street);
        trial = new Parade(guests, street);
        running = false;
    }

    public int guest(int kind, int length, int loud, int tall, int shy) {
        if (guests.count >= MOST_GUESTS || !Guests.canBe(kind, length, loud, tall, shy)) {
            return NONE;
        }
        guests.add(kind, length, loud, tall, shy);
        for (int i = 0; i < guests.count; i++) {
            row[i] = i;
        }
        running = false;
        return guests.count - 1;
    }

    public int of(int g, int what) throws IndexOutOfBoundsException {
        needGuest(g);
        switch (what) {
            case 0: return guests.kinds[g];
            case 1: return guests.lengths[g];
            case 2: return guests.louds[g];
            case 3: return guests.talls[g];
            case 4: return guests.shys[g];
            default: return NONE;
        }
    }

    public int feed(int a, int b, int c, int d, int e) {
        if (reader.length + 20 > Reader.MOST_BYTES) {
            return NONE;
        }
        reader.addFour(a);
        reader.addFour(b);
        reader.addFour(c);
        reader.addFour(d);
        reader.addFour(e);
        return reader.length;
    }

    public boolean end(int n) {
        if (n < 0 || n > reader.length) {
            return false;
        }
        reader.length = n;
        return true;
    }

    public int load() {
        spare.count = 0;
        reader.start();
        for (int i = 0; i <= Bars.MOST && reader.hasMore(); i++) {
            reader.readBar(spare);
        }
        reader.length = 0;
        if (reader.faultNumber != 0) {
            return NONE;
        }
        Bars old = bars;
        bars = spare;
        spare = old;
        return bars.count;
    }

    public int fault(int what) {
        switch (what) {
            case 0: return reader.faultNumber;
            case 1: return reader.faultPlace;
            default: return NONE;
        }
    }

    public int look(int what) {
        switch (what) {
            case 0: return guests.count;
            case 1: return bars.count;
            case 2: return street.cells;
            case 3: return street.gap;
            case 4: return running ? 1 : 0;
            default: return NONE;
        }
    }

    public boolean lay(int row) {
        int seen = 0;
        for (int i = 0; i < guests.count; i++) {
            seen |= 1 << (row >>> (4 * i) & 15);
        }
        if (seen != (1 << guests.count) - 1) {
            return false;
        }
        for (int i = 0; i < guests.count; i++) {
            this.row[i] = row >>> (4 * i) & 15;
        }
        running = false;
        return true;
    }

    public int place(int i) {
        return guests.has(i) ? row[i] : NONE;
    }

    public int orders() {
        search.start(bars);
        int found = 0;
        while (found < MOST_ROWS && search.findNext()) {
            found++;
        }
        return found;
    }

    public boolean pick(int k) {
        if (k < 0 || k >= MOST_ROWS) {
            return false;
        }
        search.start(bars);
        for (int i = 0; i <= k; i++) {
            if (!search.findNext()) {
                return false;
            }
        }
        takeRow(search.line);
        return true;
    }

    public int rank() {
        search.start(bars);
        for (int i = 0; i < MOST_ROWS && search.findNext(); i++) {
            if (isRow(search.line)) {
                return i;
            }
        }
        return NONE;
    }

    public int best() {
        search.start(bars);
        int least = NONE;
        for (int i = 0; i < MOST_ROWS && search.findNext(); i++) {
            int sum = guests.noiseOf(search.line);
            // only less replaces it, so that of equally quiet rows the first stays
            if (least == NONE || sum < least) {
                least = sum;
                System.arraycopy(search.line, 0, quietest, 0, MOST_GUESTS);
            }
        }
        if (least != NONE) {
            takeRow(quietest);
        }
        return least;
    }

    public int noise() {
        return guests.noiseOf(row);
    }

    public int why(int what) {
        breach.findIn(bars, guests, row);
        switch (what) {
            case 0: return breach.bar;
            case 1: return breach.lesser;
            case 2: return breach.greater;
            default: return NONE;
        }
    }

    public boolean road(int r, int gap) {
        if (r < 1 || r > Street.MOST_CELLS || gap < 0 || gap > 3) {
            return false;
        }
        street.clear(r, gap);
        running = false;
        return true;
    }

    public boolean wire(int cell, int high) {
        if (!street.has(cell) || high < 0 || high > 9) {
            return false;
        }
        street.wires[cell] = high;
        running = false;
        return true;
    }

    public boolean stand(int cell, int minutes) {
        if (!street.has(cell) || minutes < 0 || minutes > 9) {
            return false;
        }
        street.stands[cell] = minutes;
        running = false;
        return true;
    }

    public int passes(int g) throws IndexOutOfBoundsException {
        needGuest(g);
        return street.firstTooLow(guests.talls[g]);
    }

    public boolean begin() {
        if (guests.count == 0) {
            return false;
        }
        for (int g = 0; g < guests.count; g++) {
            if (street.firstTooLow(guests.talls[g]) != NONE) {
                return false;
            }
        }
        parade.startRow(row);
        running = true;
        return true;
    }

    public int run(int minutes) throws NoSuchElementException {
        needRun();
        if (minutes < 0 || minutes > 500) {
            return NONE;
        }
        int gone = 0;
        while (gone < minutes && !parade.allOut()) {
            parade.step();
            gone++;
        }
        return gone;
    }

    public int minute() throws NoSuchElementException {
        needRun();
        return parade.now;
    }

    public int at(int g, int what) throws IndexOutOfBoundsException, NoSuchElementException {
        needGuest(g);
        needRun();
        switch (what) {
            case 0: return parade.heads[g];
            case 1: return parade.tailOf(g);
            case 2: return parade.stateOf(g);
            case 3: return parade.cameAt[g];
            case 4: return parade.outAt[g];
            default: return NONE - 99;
        }
    }

    public int who(int cell) throws NoSuchElementException {
        needRun();
        return street.has(cell) ? parade.standsOn(cell) : NONE;
    }

    public int hole() throws NoSuchElementException {
        needRun();
        return parade.widestHole();
    }

    public int rowLong() throws NoSuchElementException {
        needRun();
        return parade.cellsTaken();
    }

    public int ends(int what) throws NoSuchElementException {
        needRun();
        switch (what) {
            case 0:
                trial.copyOf(parade);
                trial.goToEnd();
                return trial.now;
            case 1: return longestAlone();
            default: return NONE;
        }
    }

    public boolean ill(int g) throws IndexOutOfBoundsException, NoSuchElementException {
        needGuest(g);
        needRun();
        if (parade.isOut(g)) {
            return false;
        }
        parade.outAt[g] = parade.now;
        return true;
    }

    private void needGuest(int g) {
        if (!guests.has(g)) {
            throw new IndexOutOfBoundsException("no such guest");
        }
    }

    private void needRun() {
        if (!running) {
            throw new NoSuchElementException("there is no run");
        }
    }

    private boolean isRow(int[] line) {
        for (int i = 0; i < guests.count; i++) {
            if (line[i] != row[i]) {
                return false;
            }
        }
        return true;
    }

    private void takeRow(int[] line) {
        System.arraycopy(line, 0, row, 0, MOST_GUESTS);
        running = false;
    }

    private int longestAlone() {
        int longest = 0;
        for (int g = 0; g < guests.count; g++) {
            trial.startAlone(g);
            trial.goToEnd();
            longest = Math.max(longest, trial.now);
        }
        return longest;
    }

    /** The guests, by their numbers. */
    private static final class Guests {
        int count = 0;
        final int[] kinds = new int[MOST_GUESTS];
        final int[] lengths = new int[MOST_GUESTS];
        final int[] louds = new int[MOST_GUESTS];
        final int[] talls = new int[MOST_GUESTS];
        final int[] shys = new int[MOST_GUESTS];

        static boolean canBe(int kind, int length, int loud, int tall, int shy) {
            return kind >= FLOAT && kind <= GIANT
                && length >= 1 && length <= 5
                && loud >= 0 && loud <= 9
                && tall >= 1 && tall <= 9
                && shy >= 0 && shy <= 9;
        }

        void add(int kind, int length, int loud, int tall, int shy) {
            if (count >= MOST_GUESTS) {
                return;
            }
            kinds[count] = kind;
            lengths[count] = length;
            louds[count] = loud;
            talls[count] = tall;
            shys[count] = shy;
            count++;
        }

        boolean has(int g) {
            return g >= 0 && g < count;
        }

        boolean frightens(int g, int horse) {
            return kinds[horse] == HORSE && louds[g] > shys[horse];
        }

        int noiseOf(int[] line) {
            int sum = 0;
            for (int i = 1; i < count; i++) {
                sum += louds[line[i - 1]] * louds[line[i]];
            }
            return sum;
        }
    }

    /** The bars in their order; behind them the rule on horses, as the bar HORSES. */
    private static final class Bars {
        static final int MOST = 10;
        static final int HORSES = 10;
        // a thing below this is a guest's number, from it on a kind
        static final int KINDS = MOST_GUESTS;

        private final Guests guests;
        int count = 0;
        final int[] words = new int[MOST + 1];
        final int[] ones = new int[MOST + 1];
        final int[] twos = new int[MOST + 1];
        final int[] numbers = new int[MOST + 1];

        Bars(Guests guests) {
            this.guests = guests;
            words[HORSES] = FRIGHT;
        }

        void add(int word, int one, int two, int number) {
            if (count >= MOST) {
                return;
            }
            words[count] = word;
            ones[count] = one;
            twos[count] = two;
            numbers[count] = number;
            count++;
        }

        /** The bar at this place among all, the horses' behind the last. */
        int barAt(int i) {
            return i < count ? i : HORSES;
        }

        boolean isOne(int thing, int g) {
            return thing < KINDS ? thing == g : thing - KINDS == guests.kinds[g];
        }

        /** Whether a bar is broken by guest a standing so many places ahead of guest b. */
        boolean breaks(int bar, int a, int b, int apart) {
            switch (words[bar]) {
                case FAR:
                    return apart < numbers[bar]
                        && (isOne(ones[bar], a) && isOne(twos[bar], b)
                            || isOne(ones[bar], b) && isOne(twos[bar], a));
                case AHEAD:
                    return isOne(ones[bar], b) && isOne(twos[bar], a);
                case LOUD:
                    return apart == 1 && guests.louds[a] + guests.louds[b] > numbers[bar];
                case FRIGHT:
                    return apart <= 2 && (guests.frightens(a, b) || guests.frightens(b, a));
                default:
                    return false;
            }
        }

        boolean anyBreaks(int a, int b, int apart) {
            for (int i = 0; i <= count; i++) {
                if (breaks(barAt(i), a, b, apart)) {
                    return true;
                }
            }
            return false;
        }

        /** Whether a guest may stand at the end of the row that the word FIRST or LAST names. */
        boolean mayEnd(int word, int g) {
            for (int i = 0; i < count; i++) {
                if (words[i] == word && !isOne(ones[i], g)) {
                    return false;
                }
            }
            return true;
        }

        boolean hasWord(int word) {
            for (int i = 0; i < count; i++) {
                if (words[i] == word) {
                    return true;
                }
            }
            return false;
        }
    }

    /** The tape, and how it is read into bars. */
    private static final class Reader {
        static final int MOST_BYTES = 400;

        private final Guests guests;
        private final byte[] tape = new byte[MOST_BYTES];
        int length = 0;
        int faultNumber = 0;
        int faultPlace = NONE;
        private int token = TEXT_END;
        private int tokenStart = 0;
        private int tokenEnd = 0;
        private int value = 0;

        Reader(Guests guests) {
            this.guests = guests;
        }

        void addFour(int four) {
            for (int shift = 24; shift >= 0 && length < MOST_BYTES; shift -= 8) {
                tape[length] = (byte) (four >>> shift);
                length++;
            }
        }

        void start() {
            faultNumber = 0;
            faultPlace = NONE;
            tokenEnd = 0;
            goOn();
        }

        /** Whether something is left that was not read, and no fault ended the reading. */
        boolean hasMore() {
            return token != TEXT_END && faultNumber == 0;
        }

        void readBar(Bars into) {
            int word = token;
            if (word != FAR && word != AHEAD && word != FIRST && word != LAST && word != LOUD) {
                refuse(FAULT_PLACE);
                return;
            }
            if (into.count >= Bars.MOST) {
                refuse(FAULT_MANY);
                return;
            }
            goOn();
            int one = word == LOUD ? 0 : readThing();
            int two = word == FAR || word == AHEAD ? readThing() : 0;
            int number = 0;
            if (word == FAR) {
                number = readNumber(1, 7);
            } else if (word == LOUD) {
                number = readNumber(0, 18);
            }
            readSemicolon();
            if (faultNumber == 0) {
                into.add(word, one, two, number);
            }
        }

        private int readThing() {
            if (faultNumber == 0 && token == KIND) {
                goOn();
                return Bars.KINDS + readNumber(FLOAT, GIANT);
            }
            return readNumber(0, guests.count - 1);
        }

        private int readNumber(int least, int most) {
            if (faultNumber != 0) {
                return 0;
            }
            if (token != NUMBER) {
                refuse(FAULT_PLACE);
                return 0;
            }
            if (value < least || value > most) {
                refuse(FAULT_NUMBER);
                return 0;
            }
            int number = value;
            goOn();
            return number;
        }

        private void readSemicolon() {
            if (faultNumber != 0) {
                return;
            }
            if (token != SEMICOLON) {
                refuse(FAULT_PLACE);
                return;
            }
            goOn();
        }

        private void refuse(int number) {
            faultNumber = number;
            faultPlace = tokenStart;
        }

        /** Goes on to the next token. */
        private void goOn() {
            int i = tokenEnd;
            while (i < length && isBlank(tape[i])) {
                i++;
            }
            tokenStart = i;
            if (i >= length) {
                tokenEnd = i;
                token = TEXT_END;
            } else if (isLetter(tape[i])) {
                takeLetters();
            } else if (isDigit(tape[i])) {
                takeDigits();
            } else {
                tokenEnd = i + 1;
                token = tape[i] == ';' ? SEMICOLON : NO_TOKEN;
            }
        }

        private void takeLetters() {
            int i = tokenStart;
            while (i < length && isLetter(tape[i])) {
                i++;
            }
            tokenEnd = i;
            token = NO_TOKEN;
            for (int word = FAR; word <= KIND; word++) {
                if (tokenIs(textOf(word))) {
                    token = word;
                }
            }
        }

        private void takeDigits() {
            int i = tokenStart;
            value = 0;
            while (i < length && isDigit(tape[i])) {
                // a longer one is no number: its value is not used
                value = (value * 10 + tape[i] - '0') % 1000;
                i++;
            }
            tokenEnd = i;
            token = tokenEnd - tokenStart <= 2 ? NUMBER : NO_TOKEN;
        }

        private boolean tokenIs(String text) {
            if (text.length() != tokenEnd - tokenStart) {
                return false;
            }
            for (int i = 0; i < text.length(); i++) {
                if (text.charAt(i) != tape[tokenStart + i]) {
                    return false;
                }
            }
            return true;
        }

        private static String textOf(int word) {
            switch (word) {
                case FAR: return "far";
                case AHEAD: return "ahead";
                case FIRST: return "first";
                case LAST: return "last";
                case LOUD: return "loud";
                default: return "kind";
            }
        }

        private static boolean isBlank(int sign) {
            return sign == 32 || sign == 10;
        }

        private static boolean isLetter(int sign) {
            return sign >= 'a' && sign <= 'z' || sign >= 'A' && sign <= 'Z';
        }

        private static boolean isDigit(int sign) {
            return sign >= '0' && sign <= '9';
        }
    }

    /** Where a row breaks a bar first. */
    private static final class Breach {
        int bar = NONE;
        int lesser = NONE;
        int greater = NONE;

        void findIn(Bars bars, Guests guests, int[] row) {
            note(NONE, NONE, NONE);
            for (int i = 0; i <= bars.count && bar == NONE; i++) {
                int next = bars.barAt(i);
                if (bars.words[next] == FIRST) {
                    findAtEnd(bars, next, guests, row, 0);
                } else if (bars.words[next] == LAST) {
                    findAtEnd(bars, next, guests, row, guests.count - 1);
                } else {
                    findPair(bars, next, guests, row);
                }
            }
        }

        private void findAtEnd(Bars bars, int next, Guests guests, int[] row, int place) {
            if (guests.count == 0) {
                note(next, 0, 0);
            } else if (!bars.isOne(bars.ones[next], row[place])) {
                note(next, place, place);
            }
        }

        private void findPair(Bars bars, int next, Guests guests, int[] row) {
            for (int i = 0; i < guests.count; i++) {
                for (int j = i + 1; j < guests.count; j++) {
                    if (bars.breaks(next, row[i], row[j], j - i)) {
                        note(next, i, j);
                        return;
                    }
                }
            }
        }

        private void note(int bar, int lesser, int greater) {
            this.bar = bar;
            this.lesser = lesser;
            this.greater = greater;
        }
    }

    /** All rows that keep the bars, one behind the other in their order. */
    private static final class Search {
        // each step takes or leaves a guest at a place: 8 of them make some 220,000 in all
        private static final int MOST_STEPS = 1000000;

        private final Guests guests;
        final int[] line = new int[MOST_GUESTS];
        // sets of guests, a bit each: who is left to try at a place, and who can't stand
        // so many places behind a guest
        private final int[] open = new int[MOST_GUESTS];
        private final int[] barred = new int[MOST_GUESTS * MOST_GUESTS];
        private int mayBeFirst = 0;
        private int mayBeLast = 0;
        private int depth = 0;
        private boolean emptyRowLeft = false;

        Search(Guests guests) {
            this.guests = guests;
        }

        void start(Bars bars) {
            mayBeFirst = 0;
            mayBeLast = 0;
            for (int g = 0; g < guests.count; g++) {
                mayBeFirst |= bars.mayEnd(FIRST, g) ? 1 << g : 0;
                mayBeLast |= bars.mayEnd(LAST, g) ? 1 << g : 0;
                for (int apart = 1; apart < guests.count; apart++) {
                    barred[apart * MOST_GUESTS + g] = barredBehind(bars, g, apart);
                }
            }
            depth = 0;
            open[0] = openAt(0);
            emptyRowLeft = guests.count == 0 && !bars.hasWord(FIRST) && !bars.hasWord(LAST);
        }

        private int barredBehind(Bars bars, int g, int apart) {
            int set = 0;
            for (int other = 0; other < guests.count; other++) {
                if (other != g && bars.anyBreaks(g, other, apart)) {
                    set |= 1 << other;
                }
            }
            return set;
        }

        /** Who can stand at a place behind those that stand ahead of it. */
        private int openAt(int place) {
            int set = (1 << guests.count) - 1;
            for (int i = 0; i < place; i++) {
                set &= ~(1 << line[i]) & ~barred[(place - i) * MOST_GUESTS + line[i]];
            }
            if (place == 0) {
                set &= mayBeFirst;
            }
            if (place == guests.count - 1) {
                set &= mayBeLast;
            }
            return set;
        }

        private static int lowestOf(int set) {
            for (int g = 0; g < MOST_GUESTS; g++) {
                if ((set >> g & 1) != 0) {
                    return g;
                }
            }
            return 0;
        }

        /** Makes the line the next row; false: there is none. */
        boolean findNext() {
            if (guests.count == 0) {
                boolean was = emptyRowLeft;
                emptyRowLeft = false;
                return was;
            }
            for (int step = 0; step < MOST_STEPS && depth >= 0; step++) {
                int left = open[depth];
                if (left == 0) {
                    depth--;
                    continue;
                }
                line[depth] = lowestOf(left);
                open[depth] = left & (left - 1);
                if (depth == guests.count - 1) {
                    return true;
                }
                depth++;
                open[depth] = openAt(depth);
            }
            return false;
        }
    }

    /** The road: its cells with their wires and stands. */
    private static final class Street {
        static final int MOST_CELLS = 50;

        int cells = 20;
        int gap = 1;
        final int[] wires = new int[MOST_CELLS];
        final int[] stands = new int[MOST_CELLS];

        void clear(int r, int newGap) {
            cells = r;
            gap = newGap;
            for (int i = 0; i < MOST_CELLS; i++) {
                wires[i] = 0;
                stands[i] = 0;
            }
        }

        boolean has(int cell) {
            return cell >= 0 && cell < cells;
        }

        int minutesAt(int cell) {
            return cell >= 0 && cell < cells ? stands[cell] : 0;
        }

        int firstTooLow(int tall) {
            for (int i = 0; i < cells; i++) {
                if (wires[i] != 0 && tall > wires[i]) {
                    return i;
                }
            }
            return NONE;
        }
    }

    /** A run: where each guest of a line is, minute by minute. */
    private static final class Parade {
        private static final int MOST_MINUTES = 1000000;

        private final Guests guests;
        private final Street street;
        private final int[] line = new int[MOST_GUESTS];
        private int size = 0;
        int now = 0;
        final int[] heads = new int[MOST_GUESTS];
        private final int[] busy = new int[MOST_GUESTS];
        final int[] cameAt = new int[MOST_GUESTS];
        final int[] outAt = new int[MOST_GUESTS];

        Parade(Guests guests, Street street) {
            this.guests = guests;
            this.street = street;
        }

        void startRow(int[] row) {
            System.arraycopy(row, 0, line, 0, MOST_GUESTS);
            size = guests.count;
            allWait();
        }

        void startAlone(int g) {
            line[0] = g;
            size = 1;
            allWait();
        }

        private void allWait() {
            now = 0;
            for (int g = 0; g < MOST_GUESTS; g++) {
                heads[g] = -1;
                busy[g] = 0;
                cameAt[g] = NONE;
                outAt[g] = NONE;
            }
        }

        void copyOf(Parade other) {
            System.arraycopy(other.line, 0, line, 0, MOST_GUESTS);
            System.arraycopy(other.heads, 0, heads, 0, MOST_GUESTS);
            System.arraycopy(other.busy, 0, busy, 0, MOST_GUESTS);
            System.arraycopy(other.cameAt, 0, cameAt, 0, MOST_GUESTS);
            System.arraycopy(other.outAt, 0, outAt, 0, MOST_GUESTS);
            size = other.size;
            now = other.now;
        }

        void goToEnd() {
            for (int i = 0; i < MOST_MINUTES && !allOut(); i++) {
                step();
            }
        }

        void step() {
            now++;
            for (int i = 0; i < size; i++) {
                if (!isOut(line[i])) {
                    act(i);
                }
            }
        }

        private void act(int place) {
            int g = line[place];
            if (busy[g] > 0) {
                busy[g]--;
            } else if (goesNow(guests.kinds[g]) && hasRoom(place)) {
                heads[g]++;
                arrive(g);
            }
        }

        private boolean goesNow(int kind) {
            return now % 2 == 0 || kind != FOOT && kind != GIANT;
        }

        private boolean hasRoom(int place) {
            int coming = heads[line[place]] + 1;
            for (int i = place - 1; i >= 0; i--) {
                if (!isOut(line[i])) {
                    return tailOf(line[i]) - coming > street.gap;
                }
            }
            return true;
        }

        private void arrive(int g) {
            if (heads[g] == 0) {
                cameAt[g] = now;
            }
            if (tailOf(g) >= street.cells) {
                outAt[g] = now;
            }
            int play = street.minutesAt(heads[g]);
            int rest = guests.kinds[g] == GIANT && (heads[g] + 1) % 10 == 0 ? 3 : 0;
            busy[g] = (guests.kinds[g] == BAND ? 2 * play : play) + rest;
        }

        boolean isOut(int g) {
            return outAt[g] != NONE;
        }

        boolean allOut() {
            for (int i = 0; i < size; i++) {
                if (!isOut(line[i])) {
                    return false;
                }
            }
            return true;
        }

        private boolean isOnRoad(int g) {
            return heads[g] >= 0 && !isOut(g);
        }

        int tailOf(int g) {
            return heads[g] - guests.lengths[g] + 1;
        }

        int stateOf(int g) {
            if (isOut(g)) {
                return 3;
            }
            if (heads[g] < 0) {
                return 0;
            }
            return busy[g] > 0 ? 2 : 1;
        }

        int standsOn(int cell) {
            for (int i = 0; i < size; i++) {
                int g = line[i];
                if (isOnRoad(g) && tailOf(g) <= cell && cell <= heads[g]) {
                    return g;
                }
            }
            return NONE;
        }

        int widestHole() {
            int widest = 0;
            int ahead = NONE;
            for (int i = 0; i < size; i++) {
                int g = line[i];
                if (isOnRoad(g)) {
                    if (ahead != NONE) {
                        widest = Math.max(widest, tailOf(ahead) - heads[g] - 1);
                    }
                    ahead = g;
                }
            }
            return widest;
        }

        int cellsTaken() {
            int first = NONE;
            int last = NONE;
            for (int i = 0; i < size; i++) {
                if (isOnRoad(line[i])) {
                    first = first == NONE ? line[i] : first;
                    last = line[i];
                }
            }
            if (first == NONE) {
                return 0;
            }
            return Math.min(heads[first], street.cells - 1) - Math.max(tailOf(last), 0) + 1;
        }
    }
}
