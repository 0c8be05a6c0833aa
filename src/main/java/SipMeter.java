import java.util.Arrays;

/**
 * Tells what a program sips: a machine of parts and a program over them are read from a text, run
 * tick by tick, and asked about afterwards. README.md says how to use it.
 */
public final class SipMeter {
    /** None; refused. */
    public static final int NONE = -1;

    private static final int CANNOT_RUN = -2;
    private static final int NO_VALUE = -2000000000;
    private static final long NO_SHARE = -1000000000000000L;

    private static final int TAPE = 900;
    private static final int FED = 20;
    private static final int PARTS = 6;
    private static final int INPUTS = 3;
    private static final int VARS = 6;
    private static final int LINES = 60;
    private static final int MOST_WAYS = 256;
    private static final int MOST_SIPS = 10000000;
    private static final int MOST_BATTERY = 1000000000;
    private static final int MOST_RUNS = 1000;
    private static final int MOST_SLEEP = 100000;

    // What a PART does in a TICK; the place of its sips and its count in rows of four.
    private static final int ASLEEP = 0;
    private static final int WAKING = 1;
    private static final int ON = 2;
    private static final int WORKING = 3;
    private static final int DOINGS = 4;

    private final byte[] tape = new byte[TAPE];
    private int taped;
    private final Tokens tokens = new Tokens();
    private final Reader reader = new Reader();
    private Machine machine = new Machine();
    private Machine draft = new Machine();
    private final int[] puts = new int[INPUTS];
    private final Runner latest = new Runner(true);
    private final Runner trial = new Runner(false);
    private boolean hasRun;
    private final Turns turns = new Turns();
    private final Ways ways = new Ways();
    private final Fits fits = new Fits();
    private final Asks asks = new Asks();

    public SipMeter() {
        machine.clear();
        draft.clear();
    }

    // ---- the text

    public int feed(int a, int b, int c, int d, int e) {
        if (taped + FED > TAPE) {
            return NONE;
        }
        lay(a);
        lay(b);
        lay(c);
        lay(d);
        lay(e);
        return taped;
    }

    private void lay(int four) {
        for (int shift = 24; shift >= 0 && taped < TAPE; shift -= 8) {
            tape[taped] = (byte) (four >> shift);
            taped++;
        }
    }

    public boolean end(int n) {
        if (n < 0 || n > taped) {
            return false;
        }
        taped = n;
        return true;
    }

    public int text() {
        tokens.takeApart(tape, taped);
        taped = 0;
        if (!reader.read(tokens, draft)) {
            return NONE;
        }
        Machine old = machine;
        machine = draft;
        draft = old;
        System.arraycopy(machine.least, 0, puts, 0, INPUTS);
        hasRun = false;
        ways.clear();
        fits.clear();
        return machine.program.count;
    }

    public int fault(int what) {
        if (what == 0) {
            return reader.faultKind;
        }
        return what == 1 ? reader.faultAt : NONE;
    }

    public int has(int what) {
        switch (what) {
            case 0:
            case 1:
            case 2:
                return machine.counts[what];
            case 3:
                return machine.program.count;
            case 4:
                return fits.rows;
            case 5:
                return asks.count;
            default:
                return NONE;
        }
    }

    public int letter(int kind, int which, int k) {
        if (kind < 0 || kind >= Machine.KINDS || which < 0 || which >= machine.counts[kind]) {
            return NONE;
        }
        return machine.letterOf(kind, which, k);
    }

    public boolean put(int input, int n) {
        if (input < 0 || input >= machine.counts[Machine.INPUT]) {
            return false;
        }
        if (n < machine.least[input] || n > machine.most[input]) {
            return false;
        }
        puts[input] = n;
        return true;
    }

    // ---- runs

    public int run(int purse) {
        if (purse < NONE) {
            return CANNOT_RUN;
        }
        latest.go(machine, puts, purse);
        turns.clear();
        hasRun = true;
        return latest.outcome;
    }

    public int ran(int what) {
        if (!hasRun) {
            return NONE;
        }
        switch (what) {
            case 0:
                return latest.now;
            case 1:
                return latest.sipped;
            case 2:
                return latest.misses;
            case 3:
                return latest.touches;
            case 4:
                return latest.owns;
            case 5:
                return latest.cutLine;
            default:
                return NONE;
        }
    }

    public int value(int var) {
        if (!hasRun || var < 0 || var >= machine.counts[Machine.VAR]) {
            return NO_VALUE;
        }
        return latest.vars[var];
    }

    public int spent(int part, int what) {
        if (!hasRun || !isPart(part) || what < 0 || what >= DOINGS) {
            return NONE;
        }
        return latest.book.spentTicks[part * DOINGS + what];
    }

    private boolean isPart(int part) {
        return part >= 0 && part < machine.counts[Machine.PART];
    }

    private boolean isLine(int line) {
        return line >= 0 && line < machine.program.count;
    }

    public int pays(int line, int rule) {
        if (!hasRun || rule < 0 || rule > 1) {
            return NONE;
        }
        if (line == NONE) {
            return latest.book.sippedAsleep();
        }
        if (!isLine(line)) {
            return NONE;
        }
        return rule == 0 ? latest.book.paysAsLast(line) : latest.book.paysInParts(line);
    }

    public int stretches(int part) {
        if (!hasRun || !isPart(part)) {
            return NONE;
        }
        return latest.book.trail.countOf(part);
    }

    private int stretchPlace(int part, int k) {
        if (!hasRun || !isPart(part) || k < 0) {
            return NONE;
        }
        return latest.book.trail.placeOf(part, k);
    }

    public int stretch(int part, int k, int what) {
        int place = stretchPlace(part, k);
        if (place < 0) {
            return NONE;
        }
        Trail trail = latest.book.trail;
        switch (what) {
            case 0:
                return trail.from[place];
            case 1:
                return trail.to[place];
            case 2:
                return trail.onTicks[place];
            default:
                return NONE;
        }
    }

    public long lines(int part, int k) {
        int place = stretchPlace(part, k);
        return place < 0 ? 0L : latest.book.trail.users[place];
    }

    public long byTurns(int part, int k, int line, boolean above) {
        int place = stretchPlace(part, k);
        if (place < 0 || !isLine(line)) {
            return NO_SHARE;
        }
        long users = latest.book.trail.users[place];
        if ((users >> line & 1L) == 0L || Long.bitCount(users) > Turns.MOST_LINES) {
            return NO_SHARE;
        }
        turns.weigh(machine, latest.book.trail, place);
        return turns.share(line, above);
    }

    public int wasted(int line) {
        if (!hasRun || !isLine(line)) {
            return NONE;
        }
        return latest.book.wastedBy[line];
    }

    // ---- over all inputs, measured ones

    public int over(boolean greatest) {
        int untried = ways.begin(machine);
        if (untried > MOST_WAYS) {
            return NONE;
        }
        for (int way = 0; way < untried; way++) {
            trial.go(machine, ways.tried, NONE);
            ways.compare(trial.sipped, way == 0);
            ways.turnOn(machine);
        }
        return ways.choose(greatest);
    }

    public int where(int input) {
        if (input < 0 || input >= machine.counts[Machine.INPUT]) {
            return NONE;
        }
        return ways.chosenInput(input);
    }

    public int measure(int sips) {
        if (sips < 0 || sips > MOST_SIPS || fits.rows >= Fits.MOST_ROWS) {
            return NONE;
        }
        trial.go(machine, puts, NONE);
        fits.add(sips, trial);
        return fits.rows;
    }

    public int fit(int part) {
        if (!isPart(part) || fits.rows == 0) {
            return NONE;
        }
        return fits.search(machine, part);
    }

    public int fitted(int what) {
        if (!fits.known || what < 0 || what > 3) {
            return NONE;
        }
        return fits.found[what];
    }

    // ---- asks, ways, batteries

    public int ask(int tick, int ticks, int later) {
        if (tick < 0 || tick > 200 || ticks < 1 || ticks > 20 || later < 0 || later > 5) {
            return NONE;
        }
        return asks.add(tick, ticks, later) ? asks.count : NONE;
    }

    public int forget() {
        int there = asks.count;
        asks.count = 0;
        return there;
    }

    public int together(int part) {
        if (!isPart(part) || asks.count == 0) {
            return NONE;
        }
        return asks.arrange(machine.rates[part * DOINGS + ON], machine.wakeCost(part), machine.tails[part]);
    }

    public int later(int i) {
        if (i < 0 || i >= asks.arranged) {
            return NONE;
        }
        return asks.best[i];
    }

    public int never() {
        return machine.program.heldAtEnd();
    }

    public int lasts(int battery, int runs, int ticks) {
        if (!hasRun || battery < 0 || battery > MOST_BATTERY) {
            return NONE;
        }
        if (runs < 0 || runs > MOST_RUNS || ticks < 0 || ticks > MOST_SLEEP) {
            return NONE;
        }
        long day = (long) runs * latest.sipped + (long) ticks * machine.sleepOfAll();
        return day <= 0L ? NONE : (int) (battery / day);
    }

    /** The WORDS, NUMBERS and signs of a tape, in a row that ends with LAST or BAD. */
    private static final class Tokens {
        static final int LAST = 0;
        static final int BAD = 1;
        static final int OWN = 2;
        static final int NAME = 3;
        static final int NUMBER = 4;
        static final int SIGN = 5;

        // The OWN WORDS' places in the text below.
        static final int HEART = 0;
        static final int CACHE = 1;
        static final int PART = 2;
        static final int INPUT = 3;
        static final int VAR = 4;
        static final int SET = 5;
        static final int USE = 6;
        static final int HOLD = 7;
        static final int FREE = 8;
        static final int WAIT = 9;
        static final int TOUCH = 10;
        static final int IF = 11;
        static final int WHILE = 12;
        static final int ELSE = 13;
        static final int SLEEP = 14;
        static final int WAKE = 15;
        static final int AWAKE = 16;
        static final int WORK = 17;
        static final int TAIL = 18;
        static final int OR = 19;
        static final int AND = 20;
        static final int NOT = 21;
        static final int ALL = 22;
        static final int HELD = 23;
        static final int TICK = 24;
        static final int MIN = 25;
        static final int MAX = 26;
        static final int WORDS = 27;

        static final int LETTERS = 6;
        static final int DIGITS = 4;
        // A NAME is kept as a number in this base, a being 1 and z 26: six letters go into an int.
        static final int LETTER_BASE = 27;
        static final int BEFORE_A = 96;

        // Each word takes six places, so that word w begins at place 6 * w.
        private static final String OWN_WORDS =
            "heart cache part  input var   set   use   hold  free  wait  touch if    while else  sleep wake  on    work  tail  or    and   not   all   held  tick  min   max   ";
        private static final String SIGNS = ";{}=<>+-*/%()[],";

        final int[] kinds = new int[TAPE + 1];
        /** The first byte of each; of a BAD one the byte that is wrong. */
        final int[] places = new int[TAPE + 1];
        /** Which OWN WORD, a NAME's letters as a number, what NUMBER, which sign. */
        final int[] worths = new int[TAPE + 1];
        private int count;
        private byte[] bytes;
        private int length;

        void takeApart(byte[] tape, int taped) {
            bytes = tape;
            length = taped;
            count = 0;
            int at = 0;
            boolean afterWord = false;
            for (int i = 0; i <= TAPE && at >= 0; i++) {
                int start = skipBlanks(at);
                boolean glued = afterWord && start == at;
                at = takeOne(start, glued);
                afterWord = count > 0 && kinds[count - 1] != SIGN;
            }
        }

        private int skipBlanks(int at) {
            int i = at;
            while (i < length && (bytes[i] == 10 || bytes[i] == 32)) {
                i++;
            }
            return i;
        }

        /** Takes one and tells the byte behind it, NONE behind the last one. */
        private int takeOne(int start, boolean glued) {
            if (start >= length) {
                return add(LAST, start, 0, NONE);
            }
            int c = bytes[start];
            if (isLetter(c) || isDigit(c)) {
                if (glued) {
                    return add(BAD, start, 0, NONE);
                }
                return isLetter(c) ? takeWord(start) : takeNumber(start);
            }
            if (c > 0 && SIGNS.indexOf((char) c) >= 0) {
                return add(SIGN, start, c, start + 1);
            }
            return add(BAD, start, 0, NONE);
        }

        private int add(int kind, int place, int worth, int behind) {
            if (count < kinds.length) {
                kinds[count] = kind;
                places[count] = place;
                worths[count] = worth;
                count++;
            }
            return behind;
        }

        private static boolean isLetter(int c) {
            return c >= 'a' && c <= 'z';
        }

        private static boolean isDigit(int c) {
            return c >= '0' && c <= '9';
        }

        private int takeWord(int start) {
            int stop = start;
            int code = 0;
            while (stop < length && stop <= start + LETTERS && isLetter(bytes[stop])) {
                code = code * LETTER_BASE + bytes[stop] - BEFORE_A;
                stop++;
            }
            if (stop - start > LETTERS) {
                return add(BAD, start + LETTERS, 0, NONE);
            }
            int word = ownWord(start, stop);
            if (word >= 0) {
                return add(OWN, start, word, stop);
            }
            return add(NAME, start, code, stop);
        }

        private int takeNumber(int start) {
            int stop = start;
            int number = 0;
            while (stop < length && stop <= start + DIGITS && isDigit(bytes[stop])) {
                number = number * 10 + bytes[stop] - '0';
                stop++;
            }
            if (stop - start > DIGITS) {
                return add(BAD, start + DIGITS, 0, NONE);
            }
            return add(NUMBER, start, number, stop);
        }

        private int ownWord(int start, int stop) {
            for (int word = 0; word < WORDS; word++) {
                if (isOwn(word, start, stop)) {
                    return word;
                }
            }
            return NONE;
        }

        private boolean isOwn(int word, int start, int stop) {
            for (int i = 0; i < LETTERS; i++) {
                int letter = start + i < stop ? bytes[start + i] : 32;
                if (OWN_WORDS.charAt(word * LETTERS + i) != letter) {
                    return false;
                }
            }
            return true;
        }
    }

    /** The PARTS, INPUTS and VARS with their NAMES, and the program over them. */
    private static final class Machine {
        static final int PART = 0;
        static final int INPUT = 1;
        static final int VAR = 2;
        static final int KINDS = 3;
        private static final int NAMES = 15;
        private static final int[] MOST = {6, 3, 6};
        private static final int[] FIRST_NAME = {0, 6, 9};

        int heart;
        int sets;
        int wide;
        int miss;
        final int[] counts = new int[KINDS];
        final int[] rates = new int[PARTS * DOINGS];
        final int[] wakeTicks = new int[PARTS];
        final int[] tails = new int[PARTS];
        final int[] least = new int[INPUTS];
        final int[] most = new int[INPUTS];
        /** The NAMES of all kinds as numbers, 0 where there is none. */
        private final int[] codes = new int[NAMES];
        final Program program = new Program();

        void clear() {
            heart = 1;
            sets = 1;
            wide = 1;
            miss = 0;
            Arrays.fill(counts, 0);
            Arrays.fill(rates, 0);
            Arrays.fill(least, 0);
            Arrays.fill(most, 0);
            Arrays.fill(codes, 0);
            program.clear();
        }

        boolean isFull(int kind) {
            return counts[kind] >= MOST[kind];
        }

        /** The place of a NAME among all kinds, NONE if there is none such. */
        int find(int code) {
            for (int name = 0; name < NAMES; name++) {
                if (codes[name] == code) {
                    return name;
                }
            }
            return NONE;
        }

        /** Which one of a kind the NAME at a place is, NONE if it is of another kind. */
        int which(int kind, int name) {
            int i = name - FIRST_NAME[kind];
            return i >= 0 && i < counts[kind] ? i : NONE;
        }

        /** Gives the next one of a kind its NAME; it is there from then on. */
        void name(int kind, int code) {
            if (counts[kind] < MOST[kind]) {
                codes[FIRST_NAME[kind] + counts[kind]] = code;
                counts[kind]++;
            }
        }

        int letterOf(int kind, int which, int k) {
            int code = codes[FIRST_NAME[kind] + which];
            int size = 0;
            for (int rest = code; rest > 0 && size < Tokens.LETTERS; rest /= Tokens.LETTER_BASE) {
                size++;
            }
            if (k < 0 || k >= size) {
                return NONE;
            }
            for (int behind = size - 1; behind > k; behind--) {
                code /= Tokens.LETTER_BASE;
            }
            return code % Tokens.LETTER_BASE + Tokens.BEFORE_A;
        }

        int wakeCost(int part) {
            return wakeTicks[part] * rates[part * DOINGS + WAKING];
        }

        int sleepOfAll() {
            int sum = 0;
            for (int part = 0; part < counts[PART]; part++) {
                sum += rates[part * DOINGS + ASLEEP];
            }
            return sum;
        }
    }

    /** The LINES, each with the ones that come next, and their SUMS and TESTS worked from a stack. */
    private static final class Program {
        // What is put on the stack.
        static final int NUMBER = 0;
        static final int INPUT = 1;
        static final int VAR = 2;
        static final int TICK = 3;
        static final int HELD = 4;
        // What turns the upper one.
        static final int NOT = 5;
        // What joins the upper two.
        static final int ADD = 6;
        static final int SUBTRACT = 7;
        static final int MULTIPLY = 8;
        static final int DIVIDE = 9;
        static final int REST = 10;
        static final int MIN = 11;
        static final int MAX = 12;
        static final int BELOW = 13;
        static final int ABOVE = 14;
        static final int SAME = 15;
        static final int AND = 16;
        static final int OR = 17;

        int count;
        final int[] kinds = new int[LINES];
        /** The PART or VAR that a LINE is about. */
        final int[] abouts = new int[LINES];
        /** Where the SUM or TEST of a LINE begins; it goes on to where the next LINE's begins. */
        final int[] codeFrom = new int[LINES + 1];
        /** The LINE that comes next (of a TEST: if it holds); count is the end. */
        final int[] yes = new int[LINES];
        /** The LINE that comes next if a TEST fails. */
        final int[] no = new int[LINES];
        final int[] siblings = new int[LINES];
        private final int[] parents = new int[LINES];
        private final int[] after = new int[LINES];
        final int[] ops = new int[TAPE];
        final int[] args = new int[TAPE];
        int size;
        private final int[] mayHold = new int[LINES + 1];

        void clear() {
            count = 0;
            size = 0;
        }

        /** A new LINE inside another one (or NONE); the caller looks that there is room. */
        int open(int kind, int parent) {
            int line = count;
            kinds[line] = kind;
            abouts[line] = 0;
            codeFrom[line] = size;
            yes[line] = NONE;
            no[line] = NONE;
            siblings[line] = NONE;
            parents[line] = parent;
            count++;
            return line;
        }

        void emit(int op, int arg) {
            if (size < TAPE) {
                ops[size] = op;
                args[size] = arg;
                size++;
            }
        }

        /** Turns first LINES of blocks and siblings into the LINES that come next. */
        void link() {
            codeFrom[count] = size;
            for (int line = 0; line < count; line++) {
                after[line] = behind(line);
                boolean loops = kinds[line] == Tokens.WHILE;
                if (yes[line] < 0) {
                    yes[line] = loops ? line : after[line];
                }
                if (no[line] < 0) {
                    no[line] = after[line];
                }
            }
        }

        // A LINE's parent is told ahead of it, so what comes behind the parent is known.
        private int behind(int line) {
            if (siblings[line] >= 0) {
                return siblings[line];
            }
            int parent = parents[line];
            if (parent < 0) {
                return count;
            }
            return kinds[parent] == Tokens.WHILE ? parent : after[parent];
        }

        /** The PARTS that may be held at the end on some way, as bits. */
        int heldAtEnd() {
            Arrays.fill(mayHold, 0);
            boolean grows = true;
            // Each round but the last adds one of 6 bits to one of 61 places at least.
            for (int round = 0; round <= PARTS * (LINES + 1) && grows; round++) {
                grows = false;
                for (int line = 0; line < count; line++) {
                    int held = heldBehind(line);
                    boolean first = spread(yes[line], held);
                    boolean second = spread(no[line], held);
                    grows = grows || first || second;
                }
            }
            return mayHold[count];
        }

        private int heldBehind(int line) {
            int bit = 1 << abouts[line];
            if (kinds[line] == Tokens.HOLD) {
                return mayHold[line] | bit;
            }
            return kinds[line] == Tokens.FREE ? mayHold[line] & ~bit : mayHold[line];
        }

        private boolean spread(int line, int held) {
            if (line < 0 || line > count || (mayHold[line] | held) == mayHold[line]) {
                return false;
            }
            mayHold[line] |= held;
            return true;
        }
    }

    /** Reads a row of tokens into a machine, or finds the first FAULT. */
    private static final class Reader {
        private static final int WRONG = 1;
        private static final int TWICE = 2;
        private static final int UNKNOWN = 3;
        private static final int OUT_OF_RANGE = 4;
        private static final int TOO_MANY = 5;
        private static final int MOST_OPEN = 8;
        private static final int MOST_NUMBER = 999;
        private static final int FAULTY = -2;

        int faultKind = 0;
        int faultAt = NONE;
        private Tokens tokens;
        private Machine machine;
        private Program program;
        /** The token that is looked at. */
        private int k;
        private int opened;

        boolean read(Tokens row, Machine into) {
            tokens = row;
            machine = into;
            program = into.program;
            machine.clear();
            k = 0;
            opened = 0;
            faultKind = 0;
            faultAt = NONE;
            if (!declarations() || orders(NONE) == FAULTY) {
                return false;
            }
            if (tokens.kinds[k] != Tokens.LAST) {
                return refuse(WRONG);
            }
            program.link();
            return true;
        }

        private boolean refuse(int fault) {
            faultKind = fault;
            faultAt = tokens.places[k];
            return false;
        }

        // LAST and BAD are never gone past, so k stays within the row.
        private boolean goOn() {
            if (k < TAPE) {
                k++;
            }
            return true;
        }

        private boolean isOwn(int word) {
            return tokens.kinds[k] == Tokens.OWN && tokens.worths[k] == word;
        }

        private boolean isSign(char sign) {
            return tokens.kinds[k] == Tokens.SIGN && tokens.worths[k] == sign;
        }

        private boolean takeOwn(int word) {
            return isOwn(word) ? goOn() : refuse(WRONG);
        }

        private boolean takeSign(char sign) {
            return isSign(sign) ? goOn() : refuse(WRONG);
        }

        private boolean takeOpening(char sign) {
            if (!isSign(sign)) {
                return refuse(WRONG);
            }
            if (opened == MOST_OPEN) {
                return refuse(TOO_MANY);
            }
            opened++;
            return goOn();
        }

        private boolean takeClosing(char sign) {
            if (!takeSign(sign)) {
                return false;
            }
            opened--;
            return true;
        }

        /** A NUMBER within bounds, NONE with a FAULT. */
        private int takeNumber(int least, int most) {
            if (tokens.kinds[k] != Tokens.NUMBER) {
                refuse(WRONG);
                return NONE;
            }
            int number = tokens.worths[k];
            if (number < least || number > most) {
                refuse(OUT_OF_RANGE);
                return NONE;
            }
            goOn();
            return number;
        }

        /** The NUMBER behind an OWN WORD, NONE with a FAULT. */
        private int takeTold(int word, int most) {
            return takeOwn(word) ? takeNumber(0, most) : NONE;
        }

        /** Which one of a kind is named here, NONE with a FAULT. */
        private int takeName(int kind) {
            if (tokens.kinds[k] != Tokens.NAME) {
                refuse(WRONG);
                return NONE;
            }
            int name = machine.find(tokens.worths[k]);
            int which = name < 0 ? NONE : machine.which(kind, name);
            if (which < 0) {
                refuse(UNKNOWN);
                return NONE;
            }
            goOn();
            return which;
        }

        private boolean declarations() {
            boolean fine = true;
            for (int i = 0; i < TAPE && fine && tokens.kinds[k] == Tokens.OWN && tokens.worths[k] <= Tokens.VAR; i++) {
                fine = declaration(tokens.worths[k]);
            }
            return fine;
        }

        private boolean declaration(int word) {
            switch (word) {
                case Tokens.HEART:
                    return heart();
                case Tokens.CACHE:
                    return cache();
                case Tokens.PART:
                    return part();
                case Tokens.INPUT:
                    return input();
                default:
                    return beginNamed(Machine.VAR) && takeSign(';');
            }
        }

        private boolean heart() {
            goOn();
            int sips = takeNumber(0, MOST_NUMBER);
            machine.heart = sips;
            return sips >= 0 && takeSign(';');
        }

        private boolean cache() {
            goOn();
            int sets = takeNumber(1, 8);
            int wide = sets < 0 ? NONE : takeNumber(1, 8);
            int miss = wide < 0 ? NONE : takeNumber(0, 20);
            machine.sets = sets;
            machine.wide = wide;
            machine.miss = miss;
            return miss >= 0 && takeSign(';');
        }

        private boolean beginNamed(int kind) {
            if (machine.isFull(kind)) {
                return refuse(TOO_MANY);
            }
            goOn();
            if (tokens.kinds[k] != Tokens.NAME) {
                return refuse(WRONG);
            }
            if (machine.find(tokens.worths[k]) >= 0) {
                return refuse(TWICE);
            }
            machine.name(kind, tokens.worths[k]);
            return goOn();
        }

        private boolean part() {
            int part = machine.counts[Machine.PART];
            if (!beginNamed(Machine.PART) || part >= PARTS) {
                return false;
            }
            int sleep = takeTold(Tokens.SLEEP, MOST_NUMBER);
            int ticks = sleep < 0 ? NONE : takeTold(Tokens.WAKE, 20);
            int wake = ticks < 0 ? NONE : takeNumber(0, MOST_NUMBER);
            int on = wake < 0 ? NONE : takeTold(Tokens.AWAKE, MOST_NUMBER);
            int work = on < 0 ? NONE : takeTold(Tokens.WORK, MOST_NUMBER);
            int tail = work < 0 ? NONE : takeTold(Tokens.TAIL, 50);
            if (tail < 0 || !takeSign(';')) {
                return false;
            }
            machine.rates[part * DOINGS + ASLEEP] = sleep;
            machine.rates[part * DOINGS + WAKING] = wake;
            machine.rates[part * DOINGS + ON] = on;
            machine.rates[part * DOINGS + WORKING] = work;
            machine.wakeTicks[part] = ticks;
            machine.tails[part] = tail;
            return true;
        }

        private boolean input() {
            int input = machine.counts[Machine.INPUT];
            if (!beginNamed(Machine.INPUT) || input >= INPUTS) {
                return false;
            }
            int least = takeNumber(0, 99);
            int most = least < 0 ? NONE : takeNumber(least, 99);
            if (most < 0 || !takeSign(';')) {
                return false;
            }
            machine.least[input] = least;
            machine.most[input] = most;
            return true;
        }

        private boolean isOrder() {
            int word = tokens.worths[k];
            return tokens.kinds[k] == Tokens.OWN && word >= Tokens.SET && word <= Tokens.WHILE;
        }

        /** Reads ORDERS inside a LINE (or NONE): the first of them, NONE without any, FAULTY. */
        private int orders(int parent) {
            int first = NONE;
            int before = NONE;
            for (int i = 0; i <= LINES && isOrder(); i++) {
                if (program.count >= LINES) {
                    refuse(TOO_MANY);
                    return FAULTY;
                }
                int line = program.open(tokens.worths[k], parent);
                if (before < 0) {
                    first = line;
                } else {
                    program.siblings[before] = line;
                }
                before = line;
                goOn();
                if (!order(line)) {
                    return FAULTY;
                }
            }
            return first;
        }

        private boolean order(int line) {
            switch (program.kinds[line]) {
                case Tokens.SET:
                    return about(line, Machine.VAR) && takeSign('=') && sum() && takeSign(';');
                case Tokens.USE:
                    return about(line, Machine.PART) && sum() && takeSign(';');
                case Tokens.HOLD:
                case Tokens.FREE:
                    return about(line, Machine.PART) && takeSign(';');
                case Tokens.WAIT:
                case Tokens.TOUCH:
                    return sum() && takeSign(';');
                case Tokens.IF:
                    return test() && yesBlock(line) && noBlock(line);
                default:
                    return test() && yesBlock(line);
            }
        }

        private boolean about(int line, int kind) {
            int which = takeName(kind);
            program.abouts[line] = Math.max(which, 0);
            return which >= 0;
        }

        private boolean yesBlock(int line) {
            int first = block(line);
            program.yes[line] = first;
            return first != FAULTY;
        }

        private boolean noBlock(int line) {
            if (!isOwn(Tokens.ELSE)) {
                return true;
            }
            goOn();
            int first = block(line);
            program.no[line] = first;
            return first != FAULTY;
        }

        private int block(int line) {
            if (!takeOpening('{')) {
                return FAULTY;
            }
            int first = orders(line);
            if (first == FAULTY || !takeClosing('}')) {
                return FAULTY;
            }
            return first;
        }

        private boolean test() {
            boolean fine = both();
            for (int i = 0; i < TAPE && fine && isOwn(Tokens.OR); i++) {
                goOn();
                fine = both();
                program.emit(Program.OR, 0);
            }
            return fine;
        }

        private boolean both() {
            boolean fine = fact();
            for (int i = 0; i < TAPE && fine && isOwn(Tokens.AND); i++) {
                goOn();
                fine = fact();
                program.emit(Program.AND, 0);
            }
            return fine;
        }

        // A row of "not" has no bound but the tape's, so it is counted, not gone down into.
        private boolean fact() {
            boolean turned = false;
            for (int i = 0; i < TAPE && isOwn(Tokens.NOT); i++) {
                goOn();
                turned = !turned;
            }
            boolean fine = plainFact();
            if (turned) {
                program.emit(Program.NOT, 0);
            }
            return fine;
        }

        private boolean plainFact() {
            if (isSign('[')) {
                return takeOpening('[') && test() && takeClosing(']');
            }
            if (isOwn(Tokens.ALL)) {
                program.emit(Program.NUMBER, 1);
                return goOn();
            }
            if (isOwn(Tokens.HELD)) {
                goOn();
                int part = takeName(Machine.PART);
                program.emit(Program.HELD, Math.max(part, 0));
                return part >= 0;
            }
            if (!sum()) {
                return false;
            }
            int op = isSign('<') ? Program.BELOW : isSign('>') ? Program.ABOVE : isSign('=') ? Program.SAME : NONE;
            if (op < 0) {
                return refuse(WRONG);
            }
            goOn();
            boolean fine = sum();
            program.emit(op, 0);
            return fine;
        }

        private boolean sum() {
            boolean fine = product();
            for (int i = 0; i < TAPE && fine && (isSign('+') || isSign('-')); i++) {
                int op = isSign('+') ? Program.ADD : Program.SUBTRACT;
                goOn();
                fine = product();
                program.emit(op, 0);
            }
            return fine;
        }

        private boolean product() {
            boolean fine = piece();
            for (int i = 0; i < TAPE && fine && (isSign('*') || isSign('/') || isSign('%')); i++) {
                int op = isSign('*') ? Program.MULTIPLY : isSign('/') ? Program.DIVIDE : Program.REST;
                goOn();
                fine = piece();
                program.emit(op, 0);
            }
            return fine;
        }

        private boolean piece() {
            if (tokens.kinds[k] == Tokens.NUMBER) {
                int number = takeNumber(0, MOST_NUMBER);
                program.emit(Program.NUMBER, number);
                return number >= 0;
            }
            if (tokens.kinds[k] == Tokens.NAME) {
                return namedPiece();
            }
            if (isSign('(')) {
                return takeOpening('(') && sum() && takeClosing(')');
            }
            if (isOwn(Tokens.TICK)) {
                program.emit(Program.TICK, 0);
                return goOn();
            }
            if (isOwn(Tokens.MIN) || isOwn(Tokens.MAX)) {
                return choice(isOwn(Tokens.MIN) ? Program.MIN : Program.MAX);
            }
            return refuse(WRONG);
        }

        private boolean namedPiece() {
            int name = machine.find(tokens.worths[k]);
            if (name >= 0 && machine.which(Machine.INPUT, name) >= 0) {
                program.emit(Program.INPUT, machine.which(Machine.INPUT, name));
                return goOn();
            }
            int which = takeName(Machine.VAR);
            program.emit(Program.VAR, Math.max(which, 0));
            return which >= 0;
        }

        private boolean choice(int op) {
            goOn();
            boolean fine = takeOpening('(') && sum() && takeSign(',') && sum() && takeClosing(')');
            program.emit(op, 0);
            return fine;
        }
    }

    /** Does a RUN; what it noted stays till the next one. */
    private static final class Runner {
        static final int WHOLE = 0;
        static final int CUT_LONG = 1;
        static final int CUT_EMPTY = 2;
        private static final int MOST_TICKS = 2000;
        private static final int MOST_USE = 50;
        private static final int MOST_WAIT = 100;
        private static final int TOUCHED_WORDS = 1000;
        private static final int SETS = 8;
        private static final int FARTHEST = 1000000;
        // Eight open brackets keep three worths each at most, and what is around them six.
        private static final int STACK = 64;

        final Book book;
        private Machine machine;
        final int[] ins = new int[INPUTS];
        final int[] vars = new int[VARS];
        private final int[] stack = new int[STACK];
        /** The BLOCK that each SET of the cache keeps. */
        private final int[] kept = new int[SETS];
        private final int[] held = new int[PARTS];
        /** The TICK up to which a PART that is not held has TAIL left. */
        private final int[] till = new int[PARTS];
        /** The TICK up to which the book has what a PART did. */
        private final int[] booked = new int[PARTS];
        int now;
        int sipped;
        int owns;
        int misses;
        int touches;
        int outcome;
        int cutLine;
        private boolean hasPurse;
        private int left;

        Runner(boolean full) {
            book = new Book(full);
        }

        void go(Machine over, int[] inputs, int purse) {
            begin(over, inputs, purse);
            int line = 0;
            // Each LINE takes a TICK, or is cut off.
            for (int i = 0; i <= MOST_TICKS && line < machine.program.count && outcome == WHOLE; i++) {
                book.makeRoom();
                int before = now;
                int next = step(line);
                book.payHeart(line, now - before);
                if (outcome != WHOLE) {
                    cutLine = line;
                }
                line = next;
            }
            finish();
        }

        private void begin(Machine over, int[] inputs, int purse) {
            machine = over;
            System.arraycopy(inputs, 0, ins, 0, INPUTS);
            Arrays.fill(vars, 0);
            Arrays.fill(kept, NONE);
            Arrays.fill(held, 0);
            Arrays.fill(till, 0);
            Arrays.fill(booked, 0);
            now = 0;
            owns = 0;
            misses = 0;
            touches = 0;
            outcome = WHOLE;
            cutLine = NONE;
            hasPurse = purse >= 0;
            left = purse;
            book.begin(over);
        }

        private void finish() {
            int hearted = now;
            int parts = machine.counts[Machine.PART];
            for (int part = 0; part < parts && outcome == WHOLE; part++) {
                if (held[part] == 0) {
                    now = Math.max(now, till[part]);
                }
            }
            for (int part = 0; part < parts; part++) {
                settle(part, now);
                if (held[part] == 1) {
                    book.letGo(part, now);
                } else if (till[part] <= now) {
                    book.fallAsleep(part);
                }
            }
            sipped = hearted * machine.heart + book.sippedByParts();
        }

        /** Does a LINE and tells the one that comes next. */
        private int step(int line) {
            if (pass(1, NONE, ASLEEP) == 0) {
                return line;
            }
            owns++;
            Program program = machine.program;
            int about = program.abouts[line];
            switch (program.kinds[line]) {
                case Tokens.SET:
                    vars[about] = worked(line);
                    break;
                case Tokens.USE:
                    use(line, about, Math.min(Math.max(worked(line), 0), MOST_USE));
                    break;
                case Tokens.HOLD:
                    hold(line, about);
                    break;
                case Tokens.FREE:
                    free(line, about);
                    break;
                case Tokens.WAIT:
                    pass(Math.min(Math.max(worked(line), 0), MOST_WAIT), NONE, ASLEEP);
                    break;
                case Tokens.TOUCH:
                    touch(Math.floorMod(worked(line), TOUCHED_WORDS));
                    break;
                default:
                    return worked(line) != 0 ? program.yes[line] : program.no[line];
            }
            return program.yes[line];
        }

        /** Lets TICKS go by, a PART (or NONE) being busy in them: how many, before the RUN is cut off. */
        private int pass(int ticks, int busy, int doing) {
            int room = Math.min(ticks, MOST_TICKS - now);
            int done = hasPurse ? afforded(room, busy, doing) : room;
            now += done;
            if (done < ticks) {
                outcome = done == room ? CUT_LONG : CUT_EMPTY;
            }
            return done;
        }

        private int afforded(int ticks, int busy, int doing) {
            for (int i = 0; i < ticks; i++) {
                int sips = sipsAt(now + i, busy, doing);
                if (sips > left) {
                    return i;
                }
                left -= sips;
            }
            return ticks;
        }

        private int sipsAt(int tick, int busy, int doing) {
            int sips = machine.heart;
            for (int part = 0; part < machine.counts[Machine.PART]; part++) {
                int does = held[part] == 1 || tick < till[part] ? ON : ASLEEP;
                sips += machine.rates[part * DOINGS + (part == busy ? doing : does)];
            }
            return sips;
        }

        /** Books what a PART did on its own, since it was booked last. */
        private void settle(int part, int to) {
            int from = booked[part];
            int on = held[part] == 1 ? to : Math.min(Math.max(till[part], from), to);
            book.note(part, ON, from, on);
            book.note(part, ASLEEP, on, to);
            booked[part] = to;
        }

        private int wakeOf(int part) {
            return held[part] == 0 && till[part] <= now ? machine.wakeTicks[part] : 0;
        }

        private void use(int line, int part, int ticks) {
            int start = now;
            pass(wakeOf(part), part, WAKING);
            int from = now;
            if (outcome == WHOLE) {
                pass(ticks, part, WORKING);
            }
            if (outcome != WHOLE && now == start) {
                return;
            }
            settle(part, start);
            bookBusy(line, part, start, from);
            book.workFor(part, line, from, now);
            // Cut off amid its work it isn't asleep, though the run goes on no more.
            till[part] = outcome == WHOLE ? now + machine.tails[part] : now + 1;
        }

        private void hold(int line, int part) {
            if (held[part] == 1) {
                return;
            }
            int start = now;
            pass(wakeOf(part), part, WAKING);
            if (outcome != WHOLE && now == start) {
                return;
            }
            settle(part, start);
            bookBusy(line, part, start, now);
            book.holdFor(part, line, now);
            if (outcome == WHOLE) {
                held[part] = 1;
            } else {
                till[part] = now + 1;
            }
        }

        private void bookBusy(int line, int part, int start, int from) {
            book.act(part, line);
            book.note(part, WAKING, start, from);
            book.note(part, WORKING, from, now);
            booked[part] = now;
        }

        private void free(int line, int part) {
            if (held[part] == 0) {
                return;
            }
            settle(part, now);
            book.letGo(part, now);
            book.act(part, line);
            held[part] = 0;
            till[part] = now + machine.tails[part];
        }

        private void touch(int word) {
            touches++;
            if (machine.wide <= 0 || machine.sets <= 0 || machine.sets > SETS) {
                return;
            }
            int block = word / machine.wide;
            int set = block % machine.sets;
            if (kept[set] != block) {
                misses++;
                kept[set] = block;
                pass(machine.miss, NONE, ASLEEP);
            }
        }

        /** What a LINE's SUM or TEST (1 or 0) comes to. */
        private int worked(int line) {
            Program program = machine.program;
            int top = 0;
            for (int i = program.codeFrom[line]; i < program.codeFrom[line + 1]; i++) {
                int op = program.ops[i];
                if (op < Program.NOT) {
                    if (top >= STACK) {
                        return 0;
                    }
                    stack[top] = single(op, program.args[i]);
                    top++;
                } else if (op == Program.NOT) {
                    if (top < 1) {
                        return 0;
                    }
                    stack[top - 1] = 1 - stack[top - 1];
                } else {
                    if (top < 2) {
                        return 0;
                    }
                    top--;
                    stack[top - 1] = joined(op, stack[top - 1], stack[top]);
                }
            }
            return top == 1 ? stack[0] : 0;
        }

        private int single(int op, int arg) {
            switch (op) {
                case Program.INPUT:
                    return ins[arg];
                case Program.VAR:
                    return vars[arg];
                case Program.TICK:
                    return now;
                case Program.HELD:
                    return held[arg];
                default:
                    return arg;
            }
        }

        private static int joined(int op, int a, int b) {
            switch (op) {
                case Program.ADD:
                    return bounded((long) a + b);
                case Program.SUBTRACT:
                    return bounded((long) a - b);
                case Program.MULTIPLY:
                    return bounded((long) a * b);
                case Program.DIVIDE:
                    return b == 0 ? 0 : Math.floorDiv(a, b);
                case Program.REST:
                    return b == 0 ? 0 : Math.floorMod(a, b);
                case Program.MIN:
                    return Math.min(a, b);
                case Program.MAX:
                    return Math.max(a, b);
                case Program.BELOW:
                    return a < b ? 1 : 0;
                case Program.ABOVE:
                    return a > b ? 1 : 0;
                case Program.SAME:
                    return a == b ? 1 : 0;
                case Program.AND:
                    return a & b;
                default:
                    return a | b;
            }
        }

        private static int bounded(long n) {
            return (int) Math.min(Math.max(n, -FARTHEST), FARTHEST);
        }
    }

    /** What the PARTS did in a RUN and who pays for it; one that isn't full only counts TICKS. */
    private static final class Book {
        private final boolean full;
        private Machine machine;
        final int[] spentTicks = new int[PARTS * DOINGS];
        /** The LINE that used, held or freed a PART last. */
        private final int[] last = new int[PARTS];
        /** The cover of the LINE that holds a PART. */
        private final int[] holding = new int[PARTS];
        /** What each LINE pays of the heart, of waking and of working. */
        private final int[] owed = new int[LINES];
        private final int[] owedAsLast = new int[LINES];
        final int[] wastedBy = new int[LINES];
        final Trail trail = new Trail();

        Book(boolean full) {
            this.full = full;
        }

        void begin(Machine over) {
            machine = over;
            Arrays.fill(spentTicks, 0);
            if (full) {
                Arrays.fill(last, NONE);
                Arrays.fill(holding, NONE);
                Arrays.fill(owed, 0);
                Arrays.fill(owedAsLast, 0);
                Arrays.fill(wastedBy, 0);
                trail.clear();
            }
        }

        void makeRoom() {
            if (full) {
                trail.makeRoom();
            }
        }

        void payHeart(int line, int ticks) {
            if (full) {
                owed[line] += ticks * machine.heart;
            }
        }

        /** A LINE uses, holds or frees a PART now; all that the PART did so far is noted. */
        void act(int part, int line) {
            if (!full) {
                return;
            }
            last[part] = line;
            trail.join(part, line);
        }

        void note(int part, int doing, int from, int to) {
            if (from >= to) {
                return;
            }
            spentTicks[part * DOINGS + doing] += to - from;
            if (!full) {
                return;
            }
            int line = last[part];
            if (doing == ASLEEP) {
                fallAsleep(part);
            } else if (line >= 0) {
                int sips = (to - from) * machine.rates[part * DOINGS + doing];
                owedAsLast[line] += doing == ON ? sips : 0;
                owed[line] += doing == ON ? 0 : sips;
                trail.stayUp(part, line, from, to, doing == ON);
            }
        }

        // A STRETCH ends asleep only when a whole TAIL has gone by since the last LINE.
        void fallAsleep(int part) {
            if (full && trail.running[part] >= 0 && last[part] >= 0) {
                wastedBy[last[part]] += machine.tails[part] * machine.rates[part * DOINGS + ON];
                trail.running[part] = NONE;
            }
        }

        void workFor(int part, int line, int from, int to) {
            if (full) {
                trail.cover(part, line, from, to);
            }
        }

        /** Uses may come while a PART is held, so the holder's cover is kept apart till it is let go. */
        void holdFor(int part, int line, int from) {
            if (full) {
                holding[part] = trail.cover(part, line, from, from);
            }
        }

        void letGo(int part, int to) {
            if (full) {
                trail.coverTo(holding[part], to);
            }
        }

        int sippedAsleep() {
            int sum = 0;
            for (int part = 0; part < machine.counts[Machine.PART]; part++) {
                sum += spentTicks[part * DOINGS + ASLEEP] * machine.rates[part * DOINGS + ASLEEP];
            }
            return sum;
        }

        int sippedByParts() {
            int sum = 0;
            for (int i = 0; i < machine.counts[Machine.PART] * DOINGS; i++) {
                sum += spentTicks[i] * machine.rates[i];
            }
            return sum;
        }

        int paysAsLast(int line) {
            return owed[line] + owedAsLast[line];
        }

        int paysInParts(int line) {
            int sum = owed[line];
            for (int i = 0; i < trail.count; i++) {
                if ((trail.users[i] >> line & 1L) == 1L) {
                    int sips = trail.onTicks[i] * machine.rates[trail.parts[i] * DOINGS + ON];
                    sum += part(sips, trail.users[i], line);
                }
            }
            return sum;
        }

        private static int part(int sips, long users, int line) {
            int many = Long.bitCount(users);
            int ahead = Long.bitCount(users & ((1L << line) - 1L));
            if (many == 0) {
                return 0;
            }
            return sips / many + (ahead < sips % many ? 1 : 0);
        }
    }

    /** The STRETCHES of a RUN, and the TICKS in which PARTS work or are held for LINES. */
    private static final class Trail {
        int count;
        int[] parts = new int[0];
        int[] from = new int[0];
        int[] to = new int[0];
        int[] onTicks = new int[0];
        long[] users = new long[0];
        /** The STRETCH that a PART is in, NONE if it is asleep. */
        final int[] running = new int[PARTS];
        int covers;
        int[] coverParts = new int[0];
        int[] coverLines = new int[0];
        int[] coverFrom = new int[0];
        int[] coverTo = new int[0];

        void clear() {
            count = 0;
            covers = 0;
            Arrays.fill(running, NONE);
        }

        // A LINE covers once at most, and each STRETCH begins with a cover: one room does for both.
        void makeRoom() {
            if (covers < coverParts.length) {
                return;
            }
            int room = coverParts.length * 2 + 32;
            parts = Arrays.copyOf(parts, room);
            from = Arrays.copyOf(from, room);
            to = Arrays.copyOf(to, room);
            onTicks = Arrays.copyOf(onTicks, room);
            users = Arrays.copyOf(users, room);
            coverParts = Arrays.copyOf(coverParts, room);
            coverLines = Arrays.copyOf(coverLines, room);
            coverFrom = Arrays.copyOf(coverFrom, room);
            coverTo = Arrays.copyOf(coverTo, room);
        }

        /** A PART isn't asleep in these TICKS: its STRETCH goes on, or one begins behind a LINE. */
        void stayUp(int part, int line, int start, int stop, boolean on) {
            if (running[part] < 0) {
                if (count >= parts.length) {
                    return;
                }
                parts[count] = part;
                from[count] = start;
                onTicks[count] = 0;
                users[count] = 1L << line;
                running[part] = count;
                count++;
            }
            int place = running[part];
            to[place] = stop;
            onTicks[place] += on ? stop - start : 0;
        }

        void join(int part, int line) {
            if (running[part] >= 0) {
                users[running[part]] |= 1L << line;
            }
        }

        int cover(int part, int line, int start, int stop) {
            if (covers >= coverParts.length) {
                return NONE;
            }
            coverParts[covers] = part;
            coverLines[covers] = line;
            coverFrom[covers] = start;
            coverTo[covers] = stop;
            covers++;
            return covers - 1;
        }

        void coverTo(int place, int stop) {
            if (place >= 0 && place < covers) {
                coverTo[place] = stop;
            }
        }

        int countOf(int part) {
            int many = 0;
            for (int i = 0; i < count; i++) {
                if (parts[i] == part) {
                    many++;
                }
            }
            return many;
        }

        /** The place of the k-th STRETCH of a PART, NONE if there is none such. */
        int placeOf(int part, int k) {
            int ahead = 0;
            for (int i = 0; i < count; i++) {
                if (parts[i] == part) {
                    if (ahead == k) {
                        return i;
                    }
                    ahead++;
                }
            }
            return NONE;
        }
    }

    /** What each SET of a STRETCH's LINES would cost, and what a LINE pays by TURNS. */
    private static final class Turns {
        static final int MOST_LINES = 8;
        private static final int SETS = 256;
        private static final int[] FACTORIALS = {1, 1, 2, 6, 24, 120, 720, 5040, 40320};

        private final long[] costs = new long[SETS];
        private final int[] reach = new int[SETS];
        private long users;
        private int weighed = NONE;

        void clear() {
            weighed = NONE;
        }

        /** Finds the costs for the STRETCH at a place, unless they are those at hand. */
        void weigh(Machine machine, Trail trail, int place) {
            if (weighed == place) {
                return;
            }
            weighed = place;
            users = trail.users[place];
            Arrays.fill(costs, 0L);
            Arrays.fill(reach, NONE);
            int part = trail.parts[place];
            int on = machine.rates[part * DOINGS + ON];
            int wake = machine.wakeCost(part);
            for (int i = 0; i < trail.covers; i++) {
                int start = trail.coverFrom[i];
                if (trail.coverParts[i] == part && start >= trail.from[place] && start < trail.to[place]) {
                    int stop = Math.min(trail.coverTo[i] + machine.tails[part], trail.to[place]);
                    spread(bitOf(trail.coverLines[i]), start, stop, on, wake);
                }
            }
        }

        private int rank(int line) {
            return Long.bitCount(users & ((1L << line) - 1L));
        }

        private int bitOf(int line) {
            return 1 << rank(line);
        }

        // Covers come in the order of their first TICKS, so the last reach of a SET is all that counts.
        private void spread(int bit, int start, int stop, int on, int wake) {
            if (stop <= start) {
                return;
            }
            for (int set = 1; set < SETS; set++) {
                if ((set & bit) != 0) {
                    if (start > reach[set]) {
                        costs[set] += wake + (long) on * (stop - start);
                        reach[set] = stop;
                    } else if (stop > reach[set]) {
                        costs[set] += (long) on * (stop - reach[set]);
                        reach[set] = stop;
                    }
                }
            }
        }

        long share(int line, boolean above) {
            int many = Long.bitCount(users);
            if (many < 1 || many > MOST_LINES) {
                return NO_SHARE;
            }
            int bit = bitOf(line);
            long sum = 0L;
            for (int set = 0; set < 1 << many; set++) {
                if ((set & bit) == 0) {
                    int ahead = Integer.bitCount(set);
                    long orders = (long) FACTORIALS[ahead] * FACTORIALS[many - 1 - ahead];
                    sum += orders * (costs[set | bit] - costs[set]);
                }
            }
            long common = commonDivisor(Math.abs(sum), FACTORIALS[many]);
            if (common == 0L) {
                return NO_SHARE;
            }
            return (above ? sum : FACTORIALS[many]) / common;
        }

        private static long commonDivisor(long a, long b) {
            long more = a;
            long less = b;
            for (int i = 0; i < 200 && less != 0L; i++) {
                long rest = more % less;
                more = less;
                less = rest;
            }
            return more;
        }
    }

    /** The greatest and the least that RUNS sip, over all INPUTS. */
    private static final class Ways {
        /** All ways of this text were tried, and one was chosen. */
        private boolean looked;
        private boolean choseGreatest;
        private int greatest;
        private int least;
        final int[] tried = new int[INPUTS];
        private final int[] greatestAt = new int[INPUTS];
        private final int[] leastAt = new int[INPUTS];

        void clear() {
            looked = false;
        }

        private static int count(Machine machine) {
            int many = 1;
            for (int i = 0; i < machine.counts[Machine.INPUT]; i++) {
                many *= machine.most[i] - machine.least[i] + 1;
            }
            return many;
        }

        /** How many ways are to be tried: none, if the ones of this text were. */
        int begin(Machine machine) {
            System.arraycopy(machine.least, 0, tried, 0, INPUTS);
            return looked ? 0 : count(machine);
        }

        void compare(int sips, boolean first) {
            if (first || sips > greatest) {
                greatest = sips;
                System.arraycopy(tried, 0, greatestAt, 0, INPUTS);
            }
            if (first || sips < least) {
                least = sips;
                System.arraycopy(tried, 0, leastAt, 0, INPUTS);
            }
        }

        void turnOn(Machine machine) {
            for (int i = machine.counts[Machine.INPUT] - 1; i >= 0; i--) {
                if (tried[i] < machine.most[i]) {
                    tried[i]++;
                    return;
                }
                tried[i] = machine.least[i];
            }
        }

        int choose(boolean greater) {
            looked = true;
            choseGreatest = greater;
            return greater ? greatest : least;
        }

        int chosenInput(int input) {
            if (!looked) {
                return NONE;
            }
            return choseGreatest ? greatestAt[input] : leastAt[input];
        }
    }

    /** The MEASURED rows, with what RUNS of their INPUTS do, and the FIT to them. */
    private static final class Fits {
        static final int MOST_ROWS = 12;
        private static final int GRID = 16;
        private static final int ROW = PARTS * DOINGS;

        int rows;
        boolean known;
        /** SLEEP, ON, WORK, and how many are like it. */
        final int[] found = new int[4];
        private final int[] measured = new int[MOST_ROWS];
        private final int[] sipped = new int[MOST_ROWS];
        private final int[] ticks = new int[MOST_ROWS * ROW];
        /** What is sipped above the measured, without the three numbers that are sought. */
        private final int[] apart = new int[MOST_ROWS];

        void clear() {
            rows = 0;
            known = false;
        }

        void add(int sips, Runner ran) {
            if (rows >= MOST_ROWS) {
                return;
            }
            measured[rows] = sips;
            sipped[rows] = ran.sipped;
            System.arraycopy(ran.book.spentTicks, 0, ticks, rows * ROW, ROW);
            rows++;
        }

        int search(Machine machine, int part) {
            for (int row = 0; row < rows; row++) {
                apart[row] = sipped[row] - measured[row] - ownSips(machine, part, row);
            }
            int best = 0;
            for (int i = 0; i < GRID * GRID * GRID; i++) {
                int sum = differences(part, i / (GRID * GRID), i / GRID % GRID, i % GRID);
                if (i == 0 || sum < best) {
                    best = sum;
                    found[0] = i / (GRID * GRID);
                    found[1] = i / GRID % GRID;
                    found[2] = i % GRID;
                    found[3] = 0;
                }
                if (sum == best) {
                    found[3]++;
                }
            }
            known = true;
            return best;
        }

        private int ownSips(Machine machine, int part, int row) {
            int sum = 0;
            for (int doing = 0; doing < DOINGS; doing++) {
                if (doing != WAKING) {
                    sum += machine.rates[part * DOINGS + doing] * ticks[row * ROW + part * DOINGS + doing];
                }
            }
            return sum;
        }

        private int differences(int part, int sleep, int on, int work) {
            int sum = 0;
            for (int row = 0; row < rows; row++) {
                int at = row * ROW + part * DOINGS;
                sum += Math.abs(apart[row] + sleep * ticks[at + ASLEEP] + on * ticks[at + ON] + work * ticks[at + WORKING]);
            }
            return sum;
        }
    }

    /** The ASKS, and how they are put TOGETHER. */
    private static final class Asks {
        private static final int MOST = 6;
        // Six ASKS, each of which has six places at most.
        private static final int MOST_WAYS = 46656;

        int count;
        private final int[] ticks = new int[MOST];
        private final int[] sizes = new int[MOST];
        private final int[] slacks = new int[MOST];
        private final int[] shifts = new int[MOST];
        /** The ASKS by their first TICKS, as they are shifted. */
        private final int[] order = new int[MOST];
        final int[] best = new int[MOST];
        /** How many were put together latest. */
        int arranged;

        boolean add(int tick, int size, int slack) {
            if (count >= MOST) {
                return false;
            }
            ticks[count] = tick;
            sizes[count] = size;
            slacks[count] = slack;
            count++;
            return true;
        }

        /** Tries all ways, the first ask's lesser first: the least cost. */
        int arrange(int on, int wake, int tail) {
            for (int i = 0; i < count; i++) {
                shifts[i] = 0;
                order[i] = i;
            }
            arranged = count;
            int least = 0;
            int leastSum = 0;
            boolean more = true;
            for (int way = 0; way < MOST_WAYS && more; way++) {
                int cost = cost(on, wake, tail);
                int sum = shiftSum();
                if (way == 0 || cost < least || cost == least && sum < leastSum) {
                    least = cost;
                    leastSum = sum;
                    System.arraycopy(shifts, 0, best, 0, count);
                }
                more = turnOn();
            }
            return least;
        }

        private boolean turnOn() {
            for (int i = count - 1; i >= 0; i--) {
                if (shifts[i] < slacks[i]) {
                    shifts[i]++;
                    return true;
                }
                shifts[i] = 0;
            }
            return false;
        }

        private int shiftSum() {
            int sum = 0;
            for (int i = 0; i < count; i++) {
                sum += shifts[i];
            }
            return sum;
        }

        private int cost(int on, int wake, int tail) {
            sort();
            int covered = 0;
            int rows = 0;
            int reach = NONE;
            for (int i = 0; i < count; i++) {
                int ask = order[i];
                int start = ticks[ask] + shifts[ask];
                int stop = start + sizes[ask] + tail;
                if (start > reach) {
                    rows++;
                    covered += stop - start;
                    reach = stop;
                } else if (stop > reach) {
                    covered += stop - reach;
                    reach = stop;
                }
            }
            return rows * wake + covered * on;
        }

        // The order of the way before is nearly right, so each ask goes down but a little.
        private void sort() {
            for (int i = 1; i < count; i++) {
                int ask = order[i];
                int start = ticks[ask] + shifts[ask];
                int j = i;
                while (j > 0 && ticks[order[j - 1]] + shifts[order[j - 1]] > start) {
                    order[j] = order[j - 1];
                    j--;
                }
                order[j] = ask;
            }
        }
    }
}
