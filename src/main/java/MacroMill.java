import java.util.Arrays;

/** Two macro processors, one behind the other, as they stand before a compiler of C. */
public final class MacroMill {
    public static final int BAD = -1, NONE = -2, THERE = -3, FULL = -4;

    private static final int TAPE_ROOM = 16384, FED = 20;
    private static final int MOST_FUEL = 400000, MOST_DEPTH = 20, MOST_FILES = 32, TITLE_ROOM = 64;
    private static final int LF = 10, DOUBLE_QUOTE = 34, HASH = 35, SINGLE_QUOTE = 39, BACKSLASH = 92;
    /** A bound for loops whose own end comes far earlier. */
    private static final int MANY = 1000000;

    // The numbers of the second processor's errors, then of the first one's.
    private static final int COMMENT = 1, DIRECTIVE = 2, NAME = 3, PARAMETERS = 4, HASHES = 5, AGAIN = 6, MORE = 7,
            INCLUDE = 8, MISSING = 9, NESTED = 10, CONDITION = 11, DIVISION = 12, BALANCE = 13, ENDIF = 14,
            LINE = 15, ERROR = 16, ARGUMENTS = 17, CALL = 18, PASTE = 19, DEEP = 20, ROOM = 21;
    private static final int FIRST_FUEL = 31, FIRST_QUOTE = 32, FIRST_CALL = 33, FIRST_DEEP = 34, FIRST_NAME = 35,
            FIRST_NUMBER = 36, FIRST_QUOTES = 37, FIRST_EXPRESSION = 38, FIRST_DIVISION = 39, FIRST_ROOM = 40;

    private final byte[] tape;
    private int tapeSize;
    private boolean canBeCut;
    private final Files files;
    private final Outcome outcome;
    private final First first;
    private final Second second;

    public MacroMill() {
        tape = new byte[TAPE_ROOM];
        files = new Files();
        outcome = new Outcome();
        Reckoner reckoner = new Reckoner();
        first = new First(outcome, reckoner);
        second = new Second(files, outcome, reckoner);
    }

    public int feed(int a, int b, int c, int d, int e) {
        if (tapeSize + FED > TAPE_ROOM) {
            return FULL;
        }
        layNumber(a);
        layNumber(b);
        layNumber(c);
        layNumber(d);
        layNumber(e);
        canBeCut = true;
        return tapeSize;
    }

    public int end(int n) {
        if (n < 0 || n > FED || !canBeCut) {
            return BAD;
        }
        tapeSize -= FED - n;
        canBeCut = false;
        return tapeSize;
    }

    public int file(int n) {
        int length = useTape();
        if (n < 1 || n > TITLE_ROOM || n > length) {
            return BAD;
        }
        if (files.find(tape, n) >= 0) {
            return THERE;
        }
        return files.add(tape, n, length) ? files.count - 1 : FULL;
    }

    public int write(int file) {
        int length = useTape();
        if (file < 0 || file >= files.count) {
            return BAD;
        }
        return files.append(file, tape, length) ? files.lengthOf(file) : FULL;
    }

    public int clear() {
        int count = files.count;
        files.count = 0;
        return count;
    }

    public int run(int main, int stages, int fuel, int depth) {
        if (main < 0 || main >= files.count || stages < 1 || stages > 3) {
            return BAD;
        }
        if (fuel < 1 || fuel > MOST_FUEL || depth < 0 || depth > MOST_DEPTH) {
            return BAD;
        }
        outcome.begin(main);
        second.forget();
        if (stages != 2) {
            first.process(files, main, fuel);
        }
        if (stages != 1 && outcome.isFine()) {
            second.process(main, stages == 3, depth);
        }
        if (!outcome.isFine()) {
            outcome.size = 0;
            outcome.astray = 0;
        }
        return outcome.error;
    }

    public int told(int what) {
        switch (what) {
            case 0:
                return outcome.file;
            case 1:
                return outcome.line;
            case 2:
                return outcome.taken;
            case 3:
                return outcome.putOut;
            case 4:
                return outcome.substituted;
            case 5:
                return second.macros.there;
            default:
                return BAD;
        }
    }

    public int size() {
        return outcome.size;
    }

    public long word(int i) {
        if (i < 0 || i > outcome.size / 8) {
            return 0;
        }
        long word = 0;
        for (int k = 7; k >= 0; k--) {
            int at = 8 * i + k;
            word = word << 8 | (at < outcome.size ? outcome.out[at] & 255 : 0);
        }
        return word;
    }

    public int parameters() {
        int length = useTape();
        int macro = second.macros.find(tape, 0, length);
        if (macro < 0 || !second.macros.isThere(macro)) {
            return BAD;
        }
        return second.macros.hasParameters(macro) ? second.macros.parameters[macro] : NONE;
    }

    public int astray() {
        return outcome.astray;
    }

    private void layNumber(int number) {
        for (int shift = 24; shift >= 0; shift -= 8) {
            tape[tapeSize] = (byte) (number >> shift);
            tapeSize++;
        }
    }

    private int useTape() {
        int length = tapeSize;
        tapeSize = 0;
        canBeCut = false;
        return length;
    }

    private static boolean isLetter(int b) {
        return b >= 'A' && b <= 'Z' || b >= 'a' && b <= 'z' || b == '_';
    }

    private static boolean isDigit(int b) {
        return b >= '0' && b <= '9';
    }

    private static boolean isBlank(int b) {
        return b == ' ' || b == 9 || b >= 11 && b <= 13;
    }

    private static boolean areSame(byte[] a, int aFrom, byte[] b, int bFrom, int length) {
        for (int i = 0; i < length; i++) {
            if (a[aFrom + i] != b[bFrom + i]) {
                return false;
            }
        }
        return true;
    }

    private static int hashOf(byte[] bytes, int from, int length) {
        int hash = length;
        for (int i = 0; i < length; i++) {
            hash = hash * 31 + bytes[from + i];
        }
        return hash ^ hash >>> 15;
    }

    /** The named files; their bytes lie one file behind the other. */
    private static final class Files {
        private static final int BYTES = 32768;
        final byte[] bytes = new byte[BYTES];
        final byte[] titles = new byte[MOST_FILES * TITLE_ROOM];
        final int[] titleLength = new int[MOST_FILES];
        /** Where each file begins; start[count] is where the last one ends. */
        final int[] start = new int[MOST_FILES + 1];
        int count;

        int lengthOf(int file) {
            return start[file + 1] - start[file];
        }

        int find(byte[] title, int length) {
            for (int i = 0; i < count; i++) {
                if (titleLength[i] == length && areSame(titles, i * TITLE_ROOM, title, 0, length)) {
                    return i;
                }
            }
            return -1;
        }

        boolean add(byte[] tape, int titled, int length) {
            if (count >= MOST_FILES || start[count] + length - titled > BYTES) {
                return false;
            }
            System.arraycopy(tape, 0, titles, count * TITLE_ROOM, titled);
            titleLength[count] = titled;
            System.arraycopy(tape, titled, bytes, start[count], length - titled);
            start[count + 1] = start[count] + length - titled;
            count++;
            return true;
        }

        boolean append(int file, byte[] tape, int length) {
            if (start[count] + length > BYTES) {
                return false;
            }
            int end = start[file + 1];
            System.arraycopy(bytes, end, bytes, end + length, start[count] - end);
            System.arraycopy(tape, 0, bytes, end, length);
            for (int i = file + 1; i <= count; i++) {
                start[i] += length;
            }
            return true;
        }
    }

    /** What a run tells: its error, its counts and its out. */
    private static final class Outcome {
        static final int BYTES = 65536;
        final byte[] out = new byte[BYTES];
        int size;
        int error;
        int file;
        int line;
        int fileAtHand;
        int taken;
        int putOut;
        int substituted;
        int astray;

        void begin(int main) {
            size = 0;
            error = 0;
            file = 0;
            line = 0;
            fileAtHand = main;
            taken = 0;
            putOut = 0;
            substituted = 0;
            astray = 0;
        }

        boolean isFine() {
            return error == 0;
        }

        void fail(int number, int where) {
            if (error == 0) {
                error = number;
                file = fileAtHand;
                line = where;
            }
        }
    }

    /** Reckons an expression's value from its numbers and signs, of 32 bits or, if it is wide, of 64. */
    private static final class Reckoner {
        private static final int DEPTH = 1000;
        private static final int WIDE_NESTING = 60, NARROW_NESTING = 30;
        private static final int OR = '|' | '|' << 8, AND = '&' | '&' << 8, SAME = '=' | '=' << 8,
                OTHER = '!' | '=' << 8, UP_TO = '<' | '=' << 8, FROM = '>' | '=' << 8,
                LEFT = '<' | '<' << 8, RIGHT = '>' | '>' << 8;
        private static final int NO_RANK = -1, OPEN_RANK = 0, QUESTION_RANK = 1, COLON_RANK = 2, PREFIX_RANK = 20;

        private final long[] values = new long[DEPTH];
        private final boolean[] unsigned = new boolean[DEPTH];
        private int valueCount;
        private final int[] signs = new int[DEPTH];
        private final int[] ranks = new int[DEPTH];
        /** Whether what stood before a sign was not needed. */
        private final boolean[] idleBefore = new boolean[DEPTH];
        private int signCount;
        private int nesting;
        private boolean wide;
        private boolean wantsValue;
        private boolean idle;
        private boolean malformed;
        private boolean dividedByZero;

        void begin(boolean inWideValues) {
            wide = inWideValues;
            valueCount = 0;
            signCount = 0;
            nesting = 0;
            wantsValue = true;
            idle = false;
            malformed = false;
            dividedByZero = false;
        }

        void spoil() {
            malformed = true;
        }

        void takeNumber(long value, boolean withoutSign) {
            if (!wantsValue || valueCount >= DEPTH) {
                malformed = true;
            }
            if (malformed) {
                return;
            }
            values[valueCount] = value;
            unsigned[valueCount] = withoutSign;
            valueCount++;
            endOperand();
        }

        void takeSign(int sign) {
            if (malformed) {
                return;
            }
            if (wantsValue) {
                takeSignInFront(sign);
                return;
            }
            int rank = rankOf(sign);
            if (rank == NO_RANK || rank <= COLON_RANK && !wide && sign != ')') {
                malformed = true;
                return;
            }
            reduceDownTo(rank == QUESTION_RANK ? COLON_RANK + 1 : Math.max(rank, COLON_RANK));
            if (sign == ')') {
                closeParenthesis();
            } else if (sign == ':') {
                takeColon();
            } else {
                push(sign, rank);
                beIdleBehind(sign);
            }
        }

        boolean finish() {
            if (wantsValue) {
                malformed = true;
            }
            reduceDownTo(COLON_RANK);
            if (signCount > 0 || valueCount != 1) {
                malformed = true;
            }
            return !malformed;
        }

        boolean hasDividedByZero() {
            return dividedByZero;
        }

        long value() {
            return valueCount == 1 ? values[0] : 0;
        }

        private void takeSignInFront(int sign) {
            if (sign == '(') {
                push(sign, OPEN_RANK);
            } else if (sign == '+' || sign == '-' || sign == '~' || sign == '!') {
                push(sign, PREFIX_RANK);
            } else {
                malformed = true;
            }
        }

        private void push(int sign, int rank) {
            if (rank == OPEN_RANK || rank == QUESTION_RANK || rank == PREFIX_RANK) {
                nesting++;
            }
            if (signCount >= DEPTH || nesting > (wide ? WIDE_NESTING : NARROW_NESTING)) {
                malformed = true;
                return;
            }
            signs[signCount] = sign;
            ranks[signCount] = rank;
            idleBefore[signCount] = idle;
            signCount++;
            wantsValue = true;
        }

        private boolean isTop(int rank) {
            return signCount > 0 && ranks[signCount - 1] == rank;
        }

        private void closeParenthesis() {
            if (!isTop(OPEN_RANK)) {
                malformed = true;
                return;
            }
            signCount--;
            nesting--;
            endOperand();
        }

        private void takeColon() {
            if (!isTop(QUESTION_RANK)) {
                malformed = true;
                return;
            }
            ranks[signCount - 1] = COLON_RANK;
            idle = idleBefore[signCount - 1] || values[valueCount - 2] != 0;
            wantsValue = true;
        }

        private void beIdleBehind(int sign) {
            boolean isZero = values[valueCount - 1] == 0;
            if (wide && (sign == AND || sign == '?')) {
                idle = idle || isZero;
            } else if (wide && sign == OR) {
                idle = idle || !isZero;
            }
        }

        private static int rankOf(int sign) {
            switch (sign) {
                case ')':
                    return OPEN_RANK;
                case '?':
                    return QUESTION_RANK;
                case ':':
                    return COLON_RANK;
                case OR:
                    return 3;
                case AND:
                    return 4;
                case '|':
                    return 5;
                case '^':
                    return 6;
                case '&':
                    return 7;
                case SAME:
                case OTHER:
                    return 8;
                case '<':
                case '>':
                case UP_TO:
                case FROM:
                    return 9;
                case LEFT:
                case RIGHT:
                    return 10;
                case '+':
                case '-':
                    return 11;
                case '*':
                case '/':
                case '%':
                    return 12;
                default:
                    return NO_RANK;
            }
        }

        private void endOperand() {
            wantsValue = false;
            for (int i = 0; i < DEPTH && isTop(PREFIX_RANK); i++) {
                signCount--;
                nesting--;
                int at = valueCount - 1;
                int sign = signs[signCount];
                if (sign == '-') {
                    values[at] = wide ? -values[at] : (int) -values[at];
                } else if (sign == '~') {
                    values[at] = ~values[at];
                } else if (sign == '!') {
                    values[at] = values[at] == 0 ? 1 : 0;
                    unsigned[at] = false;
                }
            }
        }

        private void reduceDownTo(int rank) {
            for (int i = 0; i < DEPTH && !malformed && signCount > 0 && ranks[signCount - 1] >= rank; i++) {
                signCount--;
                int sign = signs[signCount];
                // Nothing but these makes what stands behind them idle.
                if (sign == AND || sign == OR || sign == '?') {
                    idle = idleBefore[signCount];
                }
                if (sign == '?') {
                    choose();
                } else if (ranks[signCount] == 8 || ranks[signCount] == 9 || sign == AND || sign == OR) {
                    compare(sign);
                } else {
                    reckon(sign);
                }
            }
        }

        private void choose() {
            nesting--;
            valueCount -= 2;
            int at = valueCount - 1;
            values[at] = values[at] != 0 ? values[at + 1] : values[at + 2];
            unsigned[at] = unsigned[at + 1] || unsigned[at + 2];
        }

        private void compare(int sign) {
            valueCount--;
            int at = valueCount - 1;
            long a = values[at];
            long b = values[at + 1];
            // Without a sign the values come in the order of those with one, the upper half first.
            long flip = unsigned[at] || unsigned[at + 1] ? Long.MIN_VALUE : 0;
            int order = Long.compare(a ^ flip, b ^ flip);
            boolean holds;
            switch (sign) {
                case SAME:
                    holds = order == 0;
                    break;
                case OTHER:
                    holds = order != 0;
                    break;
                case '<':
                    holds = order < 0;
                    break;
                case '>':
                    holds = order > 0;
                    break;
                case UP_TO:
                    holds = order <= 0;
                    break;
                case FROM:
                    holds = order >= 0;
                    break;
                case AND:
                    holds = a != 0 && b != 0;
                    break;
                default:
                    holds = a != 0 || b != 0;
                    break;
            }
            values[at] = holds ? 1 : 0;
            unsigned[at] = false;
        }

        private void reckon(int sign) {
            valueCount--;
            int at = valueCount - 1;
            long a = values[at];
            long b = values[at + 1];
            boolean shifts = sign == LEFT || sign == RIGHT;
            boolean withoutSign = unsigned[at] || !shifts && unsigned[at + 1];
            int by = (int) b & (wide ? 63 : 31);
            long value;
            switch (sign) {
                case '|':
                    value = a | b;
                    break;
                case '^':
                    value = a ^ b;
                    break;
                case '&':
                    value = a & b;
                    break;
                case LEFT:
                    value = a << by;
                    break;
                case RIGHT:
                    value = withoutSign ? a >>> by : a >> by;
                    break;
                case '+':
                    value = a + b;
                    break;
                case '-':
                    value = a - b;
                    break;
                case '*':
                    value = a * b;
                    break;
                default:
                    value = divide(a, b, withoutSign, sign == '%');
                    break;
            }
            values[at] = wide ? value : (int) value;
            unsigned[at] = withoutSign;
        }

        private long divide(long a, long b, boolean withoutSign, boolean left) {
            if (b == 0) {
                dividedByZero = dividedByZero || !idle;
                return 0;
            }
            long quotient = a / b;
            if (withoutSign && b < 0) {
                // Such a divisor goes into a number once at most.
                quotient = (a ^ Long.MIN_VALUE) >= (b ^ Long.MIN_VALUE) ? 1 : 0;
            } else if (withoutSign && a < 0) {
                quotient = (a >>> 1) / b << 1;
                if ((a - quotient * b ^ Long.MIN_VALUE) >= (b ^ Long.MIN_VALUE)) {
                    quotient++;
                }
            }
            return left ? a - quotient * b : quotient;
        }
    }

    /** What the first processor reads: the bytes that are left lie at the row's end. */
    private static final class Input {
        static final int BYTES = 32768;
        static final int END = 0, QUOTED = 1, COMMENTED = 2, NAMED = 3, SINGLE = 4;
        private static final int MOST_QUOTE = 4;

        final byte[] bytes = new byte[BYTES];
        private final Outcome outcome;
        private int at;
        /** From here on what is left is the main file's. */
        private int mainAt;
        int line;
        private int fuel;
        /** The opening quote, and from MOST_QUOTE on the closing one. */
        private final byte[] quotes = new byte[2 * MOST_QUOTE];
        private int openingLength;
        private int closingLength;
        /** The latest token: its kind and its text, which lies in bytes until something is put back. */
        int kind;
        int from;
        int to;

        Input(Outcome outcome) {
            this.outcome = outcome;
        }

        void begin(byte[] source, int start, int length, int fuelAtFirst) {
            at = BYTES - length;
            System.arraycopy(source, start, bytes, at, length);
            mainAt = at;
            line = 1;
            fuel = fuelAtFirst;
            setFirstQuotes();
        }

        void setFirstQuotes() {
            quotes[0] = 96;
            quotes[MOST_QUOTE] = 39;
            openingLength = 1;
            closingLength = 1;
        }

        void setQuotes(byte[] source, int opening, int openingSize, int closing, int closingSize) {
            System.arraycopy(source, opening, quotes, 0, openingSize);
            System.arraycopy(source, closing, quotes, MOST_QUOTE, closingSize);
            openingLength = openingSize;
            closingLength = closingSize;
        }

        int quoteLength(boolean closing) {
            return closing ? closingLength : openingLength;
        }

        int quoteByte(boolean closing, int i) {
            return quotes[closing ? MOST_QUOTE + i : i];
        }

        boolean isAtParenthesis() {
            return at < BYTES && bytes[at] == '(';
        }

        boolean take() {
            if (at >= BYTES) {
                return false;
            }
            if (fuel == 0) {
                outcome.fail(FIRST_FUEL, line);
                return false;
            }
            fuel--;
            outcome.taken++;
            if (at == mainAt) {
                mainAt++;
                if (bytes[at] == LF) {
                    line++;
                }
            }
            at++;
            return true;
        }

        boolean putBack(byte[] source, int length) {
            if (length > at) {
                return false;
            }
            at -= length;
            System.arraycopy(source, 0, bytes, at, length);
            return true;
        }

        void takeLine() {
            boolean ended = false;
            for (int i = 0; i < BYTES && at < BYTES && !ended; i++) {
                ended = bytes[at] == LF;
                if (!take()) {
                    return;
                }
            }
        }

        void readToken() {
            kind = END;
            from = at;
            to = at;
            if (at >= BYTES) {
                return;
            }
            if (isAt(false)) {
                readQuoted();
            } else if (bytes[at] == HASH) {
                kind = COMMENTED;
                takeLine();
                to = at;
            } else if (isLetter(bytes[at])) {
                readName();
            } else {
                kind = SINGLE;
                take();
                to = at;
            }
        }

        private void readName() {
            kind = NAMED;
            for (int i = 0; i < BYTES && at < BYTES && (isLetter(bytes[at]) || isDigit(bytes[at])); i++) {
                if (!take()) {
                    return;
                }
            }
            to = at;
        }

        private void readQuoted() {
            kind = QUOTED;
            int lineOfOpening = line;
            int open = 1;
            if (!takeQuote(false)) {
                return;
            }
            from = at;
            for (int i = 0; i < BYTES && at < BYTES; i++) {
                to = at;
                if (isAt(true)) {
                    open--;
                    if (!takeQuote(true) || open == 0) {
                        return;
                    }
                } else if (isAt(false)) {
                    open++;
                    if (!takeQuote(false)) {
                        return;
                    }
                } else if (!take()) {
                    return;
                }
            }
            outcome.fail(FIRST_QUOTE, lineOfOpening);
        }

        private boolean isAt(boolean closing) {
            int length = quoteLength(closing);
            return at + length <= BYTES && areSame(bytes, at, quotes, closing ? MOST_QUOTE : 0, length);
        }

        private boolean takeQuote(boolean closing) {
            for (int i = quoteLength(closing); i > 0; i--) {
                if (!take()) {
                    return false;
                }
            }
            return true;
        }
    }

    /** The open calls of the first processor with their names and arguments, the innermost one last. */
    private static final class Calls {
        private static final int MOST = 50, MOST_ARGUMENTS = 8192, BYTES = 16384;
        final byte[] bytes = new byte[BYTES];
        private int used;
        private final int[] argumentAt = new int[MOST_ARGUMENTS];
        private int argumentCount;
        private final int[] nameAt = new int[MOST];
        private final int[] nameLength = new int[MOST];
        private final int[] firstArgument = new int[MOST];
        private final int[] nesting = new int[MOST];
        private final boolean[] begun = new boolean[MOST];
        int open;

        void clearAll() {
            used = 0;
            argumentCount = 0;
            open = 0;
        }

        boolean isFull() {
            return open >= MOST;
        }

        boolean openOne(byte[] source, int from, int length) {
            if (open >= MOST || used + length > BYTES) {
                return false;
            }
            nameAt[open] = used;
            nameLength[open] = length;
            firstArgument[open] = argumentCount;
            nesting[open] = 0;
            begun[open] = false;
            open++;
            return append(source, from, length);
        }

        void closeOne() {
            if (open > 0) {
                open--;
                used = nameAt[open];
                argumentCount = firstArgument[open];
            }
        }

        boolean beginArgument() {
            if (open == 0 || argumentCount >= MOST_ARGUMENTS) {
                return false;
            }
            argumentAt[argumentCount] = used;
            argumentCount++;
            begun[open - 1] = false;
            return true;
        }

        boolean append(byte[] source, int from, int length) {
            if (used + length > BYTES) {
                return false;
            }
            System.arraycopy(source, from, bytes, used, length);
            used += length;
            return true;
        }

        boolean hasBegun() {
            return open > 0 && begun[open - 1];
        }

        void markBegun() {
            if (open > 0) {
                begun[open - 1] = true;
            }
        }

        int nestingNow() {
            return open > 0 ? nesting[open - 1] : 0;
        }

        void nestBy(int more) {
            if (open > 0) {
                nesting[open - 1] += more;
            }
        }

        int nameFrom() {
            return open > 0 ? nameAt[open - 1] : 0;
        }

        int nameSize() {
            return open > 0 ? nameLength[open - 1] : 0;
        }

        int arguments() {
            return open > 0 ? argumentCount - firstArgument[open - 1] : 0;
        }

        /** Where the innermost call's argument i begins; one that is not there is without bytes. */
        int argumentFrom(int i) {
            int at = open > 0 ? firstArgument[open - 1] + i : argumentCount;
            return at < argumentCount ? argumentAt[at] : used;
        }

        int argumentSize(int i) {
            return argumentFrom(i + 1) - argumentFrom(i);
        }

        boolean areSameArguments(int i, int k) {
            int length = argumentSize(i);
            return length == argumentSize(k) && areSame(bytes, argumentFrom(i), bytes, argumentFrom(k), length);
        }

        boolean isName(int i) {
            int from = argumentFrom(i);
            int length = argumentSize(i);
            if (length == 0 || !isLetter(bytes[from])) {
                return false;
            }
            for (int k = 1; k < length; k++) {
                if (!isLetter(bytes[from + k]) && !isDigit(bytes[from + k])) {
                    return false;
                }
            }
            return true;
        }

        boolean isQuote(int i) {
            int from = argumentFrom(i);
            int length = argumentSize(i);
            if (i >= arguments() || length < 1 || length > Input.MOST_QUOTE) {
                return false;
            }
            for (int k = from; k < from + length; k++) {
                int b = bytes[k];
                if (isLetter(b) || isDigit(b) || isBlank(b) || b == LF || b == HASH || b == '(' || b == ')' || b == ',') {
                    return false;
                }
            }
            return true;
        }
    }

    /** The macros of the first processor; of the meanings of one name the top one comes first in its chain. */
    private static final class Meanings {
        static final int TEXT = 0, DEFINE = 1, PUSHDEF = 2, UNDEFINE = 3, POPDEF = 4, IFDEF = 5, IFELSE = 6, EVAL = 7,
                INCR = 8, DECR = 9, LEN = 10, INDEX = 11, SUBSTR = 12, SHIFT = 13, DNL = 14, DIVERT = 15,
                UNDIVERT = 16, CHANGEQUOTE = 17;
        /** In the order of their numbers; all up to SHIFT are macros before ( alone. */
        private static final String BUILT_IN = "define pushdef undefine popdef ifdef ifelse eval incr decr len index substr shift dnl divert undivert changequote ";
        private static final int MOST = 300, BYTES = 16384, NODES = MOST + CHANGEQUOTE, POOL = 2 * BYTES + 512;
        private static final int BUCKETS = 256;

        final byte[] pool = new byte[POOL];
        private int poolUsed;
        private final int[] bucket = new int[BUCKETS];
        private final int[] chain = new int[NODES];
        private int free;
        /** Where a meaning's name lies in the pool, its text directly behind it; -1 for a meaning that is not in use. */
        private final int[] nameAt = new int[NODES];
        private final int[] nameLength = new int[NODES];
        private final int[] textLength = new int[NODES];
        private final int[] kind = new int[NODES];
        private int defined;
        private int definedBytes;

        void reset() {
            Arrays.fill(bucket, -1);
            Arrays.fill(nameAt, -1);
            for (int i = 0; i < NODES; i++) {
                chain[i] = i + 1;
            }
            free = 0;
            poolUsed = 0;
            defined = 0;
            definedBytes = 0;
            layBuiltIn();
        }

        private void layBuiltIn() {
            int number = DEFINE;
            int from = 0;
            for (int i = 0; i < BUILT_IN.length(); i++) {
                if (BUILT_IN.charAt(i) == ' ') {
                    int node = takeNode(hashOf(pool, from, poolUsed - from) & BUCKETS - 1);
                    nameAt[node] = from;
                    nameLength[node] = poolUsed - from;
                    textLength[node] = 0;
                    kind[node] = number;
                    number++;
                    from = poolUsed;
                } else {
                    pool[poolUsed] = (byte) BUILT_IN.charAt(i);
                    poolUsed++;
                }
            }
        }

        int find(byte[] source, int from, int length) {
            int node = bucket[hashOf(source, from, length) & BUCKETS - 1];
            for (int i = 0; i < NODES && node >= 0; i++) {
                if (isNamed(node, source, from, length)) {
                    return node;
                }
                node = chain[node];
            }
            return -1;
        }

        int kindOf(int node) {
            return kind[node];
        }

        boolean wantsParenthesis(int node) {
            return kind[node] >= DEFINE && kind[node] <= SHIFT;
        }

        int textFrom(int node) {
            return nameAt[node] + nameLength[node];
        }

        int textSize(int node) {
            return textLength[node];
        }

        boolean define(byte[] source, int name, int nameSize, int text, int textSize, boolean onTop) {
            int top = find(source, name, nameSize);
            boolean replaces = top >= 0 && !onTop;
            boolean replacesText = replaces && kind[top] == TEXT;
            int count = replacesText ? defined : defined + 1;
            int sum = definedBytes + nameSize + textSize - (replacesText ? nameSize + textLength[top] : 0);
            if (count > MOST || sum > BYTES || !replaces && free >= NODES) {
                return false;
            }
            int place = makeRoom(nameSize + textSize);
            int node = replaces ? top : takeNode(hashOf(source, name, nameSize) & BUCKETS - 1);
            System.arraycopy(source, name, pool, place, nameSize);
            System.arraycopy(source, text, pool, place + nameSize, textSize);
            nameAt[node] = place;
            nameLength[node] = nameSize;
            textLength[node] = textSize;
            kind[node] = TEXT;
            defined = count;
            definedBytes = sum;
            return true;
        }

        void remove(byte[] source, int from, int length, boolean all) {
            int place = hashOf(source, from, length) & BUCKETS - 1;
            int before = -1;
            int node = bucket[place];
            for (int i = 0; i < NODES && node >= 0; i++) {
                int next = chain[node];
                if (isNamed(node, source, from, length)) {
                    if (before < 0) {
                        bucket[place] = next;
                    } else {
                        chain[before] = next;
                    }
                    release(node);
                    if (!all) {
                        return;
                    }
                } else {
                    before = node;
                }
                node = next;
            }
        }

        private boolean isNamed(int node, byte[] source, int from, int length) {
            return nameLength[node] == length && areSame(pool, nameAt[node], source, from, length);
        }

        private int takeNode(int place) {
            int node = free;
            free = chain[node];
            chain[node] = bucket[place];
            bucket[place] = node;
            return node;
        }

        private void release(int node) {
            if (kind[node] == TEXT) {
                defined--;
                definedBytes -= nameLength[node] + textLength[node];
            }
            nameAt[node] = -1;
            chain[node] = free;
            free = node;
        }

        private int makeRoom(int length) {
            if (poolUsed + length > POOL) {
                closeGaps();
            }
            int place = poolUsed;
            poolUsed += length;
            return place;
        }

        /** Moves what is in use to the pool's beginning, the lowest first, so that nothing is overwritten. */
        private void closeGaps() {
            int moved = -1;
            poolUsed = 0;
            for (int i = 0; i < NODES; i++) {
                int lowest = -1;
                for (int node = 0; node < NODES; node++) {
                    if (nameAt[node] > moved && (lowest < 0 || nameAt[node] < nameAt[lowest])) {
                        lowest = node;
                    }
                }
                if (lowest < 0) {
                    return;
                }
                moved = nameAt[lowest];
                int length = nameLength[lowest] + textLength[lowest];
                System.arraycopy(pool, moved, pool, poolUsed, length);
                nameAt[lowest] = poolUsed;
                poolUsed += length;
            }
        }
    }

    /** The first processor: reads tokens, calls macros and puts back what they give. */
    private static final class First {
        private static final int NOWHERE = -1, LAST_DIVERSION = 9, BYTES = 32768;

        private final Outcome outcome;
        private final Reckoner reckoner;
        private final Input input;
        private final Calls calls = new Calls();
        private final Meanings meanings = new Meanings();
        /** What the call at hand gives; beyond the row's end just its length is counted. */
        private final byte[] result = new byte[Input.BYTES];
        private int resultSize;
        /** The bytes of all diversions, chained, and the chain of places that became free; from fresh on none was used. */
        private final byte[] diverted = new byte[BYTES];
        private final int[] chain = new int[BYTES];
        private final int[] head = new int[LAST_DIVERSION + 1];
        private final int[] tail = new int[LAST_DIVERSION + 1];
        private int free;
        private int fresh;
        private int divertedCount;
        private int current;

        First(Outcome outcome, Reckoner reckoner) {
            this.outcome = outcome;
            this.reckoner = reckoner;
            input = new Input(outcome);
        }

        void process(Files files, int main, int fuel) {
            input.begin(files.bytes, files.start[main], files.lengthOf(main), fuel);
            calls.clearAll();
            meanings.reset();
            clearDiversions();
            boolean going = true;
            // Every round but the last one takes a byte, and there is fuel for no more.
            for (int round = 0; round <= MOST_FUEL && going; round++) {
                input.readToken();
                if (outcome.isFine() && input.kind == Input.END) {
                    finish();
                    going = false;
                } else if (outcome.isFine() && isCallComplete()) {
                    answer();
                }
                going = going && outcome.isFine();
            }
        }

        private void finish() {
            if (calls.open > 0) {
                fail(FIRST_CALL);
                return;
            }
            for (int i = 0; i <= LAST_DIVERSION; i++) {
                int at = head[i];
                for (int k = 0; k < BYTES && at >= 0 && outcome.size < Outcome.BYTES; k++) {
                    outcome.out[outcome.size] = diverted[at];
                    outcome.size++;
                    at = chain[at];
                }
            }
        }

        private void fail(int number) {
            outcome.fail(number, input.line);
        }

        /** Uses the token that was read, and tells whether a call has all that belongs to it now. */
        private boolean isCallComplete() {
            if (input.kind == Input.NAMED && isCalled()) {
                return openCall();
            }
            if (calls.open > 0) {
                return useInArgument();
            }
            divert(input.bytes, input.from, input.to);
            return false;
        }

        private boolean isCalled() {
            int meaning = meanings.find(input.bytes, input.from, input.to - input.from);
            return meaning >= 0 && (!meanings.wantsParenthesis(meaning) || input.isAtParenthesis());
        }

        private boolean openCall() {
            calls.markBegun();
            if (calls.isFull()) {
                fail(FIRST_DEEP);
            } else if (!calls.openOne(input.bytes, input.from, input.to - input.from)) {
                fail(FIRST_ROOM);
            } else if (!input.isAtParenthesis()) {
                return true;
            } else if (input.take() && !calls.beginArgument()) {
                fail(FIRST_ROOM);
            }
            return false;
        }

        private boolean useInArgument() {
            int sign = input.kind == Input.SINGLE ? input.bytes[input.from] : 0;
            boolean inner = calls.nestingNow() > 0;
            if (sign == ')' && !inner) {
                return true;
            }
            if (sign == ',' && !inner) {
                if (!calls.beginArgument()) {
                    fail(FIRST_ROOM);
                }
                return false;
            }
            if (!calls.hasBegun() && (isBlank(sign) || sign == LF)) {
                return false;
            }
            if (sign == '(' || sign == ')') {
                calls.nestBy(sign == '(' ? 1 : -1);
            }
            calls.markBegun();
            if (!calls.append(input.bytes, input.from, input.to - input.from)) {
                fail(FIRST_ROOM);
            }
            return false;
        }

        /** All arguments are read: the meaning that the name has now gives what is put back. */
        private void answer() {
            resultSize = 0;
            int meaning = meanings.find(calls.bytes, calls.nameFrom(), calls.nameSize());
            if (meaning >= 0) {
                int kind = meanings.kindOf(meaning);
                if (kind == Meanings.TEXT) {
                    giveText(meaning);
                } else if (kind == Meanings.EVAL) {
                    evaluate();
                } else if (kind <= Meanings.IFELSE) {
                    answerMacros(kind);
                } else if (kind <= Meanings.SUBSTR) {
                    answerValues(kind);
                } else {
                    answerOthers(kind);
                }
            }
            calls.closeOne();
            if (outcome.isFine() && (resultSize > Input.BYTES || !input.putBack(result, resultSize))) {
                fail(FIRST_ROOM);
            }
        }

        private void giveByte(int b) {
            if (resultSize < Input.BYTES) {
                result[resultSize] = (byte) b;
            }
            resultSize++;
        }

        private void giveBytes(int from, int length) {
            if (resultSize + length <= Input.BYTES) {
                System.arraycopy(calls.bytes, from, result, resultSize, length);
            }
            resultSize += length;
        }

        private void giveArgument(int i) {
            giveBytes(calls.argumentFrom(i), calls.argumentSize(i));
        }

        private void giveQuote(boolean closing) {
            for (int i = 0; i < input.quoteLength(closing); i++) {
                giveByte(input.quoteByte(closing, i));
            }
        }

        private void giveArguments(int from, boolean quoted) {
            for (int i = from; i < calls.arguments() && resultSize <= Input.BYTES; i++) {
                if (i > from) {
                    giveByte(',');
                }
                if (quoted) {
                    giveQuote(false);
                }
                giveArgument(i);
                if (quoted) {
                    giveQuote(true);
                }
            }
        }

        private void giveNumber(int number) {
            long left = number;
            if (left < 0) {
                giveByte('-');
                left = -left;
            }
            for (long scale = 1000000000L; scale > 0; scale /= 10) {
                if (left >= scale || scale == 1) {
                    giveByte((int) ('0' + left / scale % 10));
                }
            }
        }

        private void giveText(int meaning) {
            byte[] pool = meanings.pool;
            int at = meanings.textFrom(meaning);
            int end = at + meanings.textSize(meaning);
            while (at < end && resultSize <= Input.BYTES) {
                int mark = pool[at] == '$' && at + 1 < end ? pool[at + 1] : 0;
                at += 2;
                if (mark == '0') {
                    giveBytes(calls.nameFrom(), calls.nameSize());
                } else if (isDigit(mark)) {
                    giveArgument(mark - '1');
                } else if (mark == '#') {
                    giveNumber(calls.arguments());
                } else if (mark == '*' || mark == '@') {
                    giveArguments(0, mark == '@');
                } else {
                    at--;
                    giveByte(pool[at - 1]);
                }
            }
        }

        private void answerMacros(int kind) {
            switch (kind) {
                case Meanings.DEFINE:
                case Meanings.PUSHDEF:
                    if (!calls.isName(0)) {
                        fail(FIRST_NAME);
                    } else if (!meanings.define(calls.bytes, calls.argumentFrom(0), calls.argumentSize(0),
                            calls.argumentFrom(1), calls.argumentSize(1), kind == Meanings.PUSHDEF)) {
                        fail(FIRST_ROOM);
                    }
                    break;
                case Meanings.UNDEFINE:
                case Meanings.POPDEF:
                    for (int i = 0; i < calls.arguments(); i++) {
                        meanings.remove(calls.bytes, calls.argumentFrom(i), calls.argumentSize(i), kind == Meanings.UNDEFINE);
                    }
                    break;
                case Meanings.IFDEF:
                    giveArgument(meanings.find(calls.bytes, calls.argumentFrom(0), calls.argumentSize(0)) >= 0 ? 1 : 2);
                    break;
                default:
                    chooseSame();
                    break;
            }
        }

        private void chooseSame() {
            int count = calls.arguments();
            for (int i = 0; i + 2 < count; i += 3) {
                if (calls.areSameArguments(i, i + 1)) {
                    giveArgument(i + 2);
                    return;
                }
                if (count - i == 4 || count - i == 5) {
                    giveArgument(i + 3);
                    return;
                }
            }
        }

        private void answerValues(int kind) {
            switch (kind) {
                case Meanings.INCR:
                    giveNumber(number(0) + 1);
                    break;
                case Meanings.DECR:
                    giveNumber(number(0) - 1);
                    break;
                case Meanings.LEN:
                    giveNumber(calls.argumentSize(0));
                    break;
                case Meanings.INDEX:
                    giveNumber(place());
                    break;
                default:
                    givePart();
                    break;
            }
        }

        private int place() {
            int within = calls.argumentFrom(0);
            int wanted = calls.argumentFrom(1);
            int length = calls.argumentSize(1);
            int last = calls.argumentSize(0) - length;
            for (int i = 0; i <= last; i++) {
                if (areSame(calls.bytes, within + i, calls.bytes, wanted, length)) {
                    return i;
                }
            }
            return -1;
        }

        private void givePart() {
            int length = calls.argumentSize(0);
            int from = number(1);
            int most = calls.arguments() > 2 ? number(2) : length;
            if (outcome.isFine() && from >= 0 && from < length && most > 0) {
                giveBytes(calls.argumentFrom(0) + from, Math.min(most, length - from));
            }
        }

        /** The NUMBER that an argument is. */
        private int number(int i) {
            int from = calls.argumentFrom(i);
            int length = calls.argumentSize(i);
            if (length == 0) {
                return 0;
            }
            boolean below = calls.bytes[from] == '-';
            int digits = below ? length - 1 : length;
            if (digits < 1 || digits > 9) {
                fail(FIRST_NUMBER);
                return 0;
            }
            int value = 0;
            for (int k = from + length - digits; k < from + length; k++) {
                if (!isDigit(calls.bytes[k])) {
                    fail(FIRST_NUMBER);
                    return 0;
                }
                value = value * 10 + calls.bytes[k] - '0';
            }
            return below ? -value : value;
        }

        private void evaluate() {
            int at = calls.argumentFrom(0);
            int end = at + calls.argumentSize(0);
            reckoner.begin(false);
            while (at < end) {
                int b = calls.bytes[at];
                int behind = at + 1 < end ? calls.bytes[at + 1] : 0;
                if (isBlank(b) || b == LF) {
                    at++;
                } else if (isDigit(b)) {
                    at = takeNumber(at, end);
                } else if (isOperatorOfTwo(b, behind)) {
                    reckoner.takeSign(b | behind << 8);
                    at += 2;
                } else {
                    reckoner.takeSign(b);
                    at++;
                }
            }
            if (!reckoner.finish()) {
                fail(FIRST_EXPRESSION);
            } else if (reckoner.hasDividedByZero()) {
                fail(FIRST_DIVISION);
            } else {
                giveNumber((int) reckoner.value());
            }
        }

        /** || && == != <= >= << >> */
        private static boolean isOperatorOfTwo(int a, int b) {
            if (b == '=') {
                return a == '=' || a == '!' || a == '<' || a == '>';
            }
            return a == b && (a == '|' || a == '&' || a == '<' || a == '>');
        }

        private int takeNumber(int from, int end) {
            int at = from;
            long value = 0;
            while (at < end && isDigit(calls.bytes[at])) {
                value = value * 10 + calls.bytes[at] - '0';
                at++;
            }
            if (at - from > 9) {
                reckoner.spoil();
            }
            reckoner.takeNumber(value, false);
            return at;
        }

        private void answerOthers(int kind) {
            switch (kind) {
                case Meanings.SHIFT:
                    giveArguments(1, true);
                    break;
                case Meanings.DNL:
                    input.takeLine();
                    break;
                case Meanings.DIVERT:
                    setCurrent(number(0));
                    break;
                case Meanings.UNDIVERT:
                    undivert();
                    break;
                default:
                    changeQuotes();
                    break;
            }
        }

        private void changeQuotes() {
            if (calls.arguments() == 0) {
                input.setFirstQuotes();
            } else if (calls.isQuote(0) && calls.isQuote(1)) {
                input.setQuotes(calls.bytes, calls.argumentFrom(0), calls.argumentSize(0),
                        calls.argumentFrom(1), calls.argumentSize(1));
            } else {
                fail(FIRST_QUOTES);
            }
        }

        private void clearDiversions() {
            Arrays.fill(head, -1);
            Arrays.fill(tail, -1);
            free = -1;
            fresh = 0;
            divertedCount = 0;
            current = 0;
        }

        private void setCurrent(int number) {
            if (number > LAST_DIVERSION) {
                fail(FIRST_NUMBER);
                return;
            }
            current = number < 0 ? NOWHERE : number;
        }

        private void divert(byte[] source, int from, int to) {
            if (current == NOWHERE) {
                return;
            }
            if (divertedCount + to - from > BYTES) {
                fail(FIRST_ROOM);
                return;
            }
            for (int i = from; i < to; i++) {
                int place = takePlace();
                diverted[place] = source[i];
                chain[place] = -1;
                join(current, place, place);
            }
        }

        private int takePlace() {
            divertedCount++;
            int place = free;
            if (place >= 0) {
                free = chain[place];
                return place;
            }
            fresh++;
            return fresh - 1;
        }

        private void join(int diversion, int from, int to) {
            if (head[diversion] < 0) {
                head[diversion] = from;
            } else {
                chain[tail[diversion]] = from;
            }
            tail[diversion] = to;
        }

        private void undivert() {
            int count = calls.arguments();
            if (count == 0 || count == 1 && calls.argumentSize(0) == 0) {
                for (int i = 1; i <= LAST_DIVERSION; i++) {
                    undivertOne(i);
                }
                return;
            }
            for (int i = 0; i < count && outcome.isFine(); i++) {
                undivertOne(number(i));
            }
        }

        private void undivertOne(int diversion) {
            if (diversion < 1 || diversion > LAST_DIVERSION || diversion == current || head[diversion] < 0) {
                return;
            }
            if (current == NOWHERE) {
                release(diversion);
            } else {
                join(current, head[diversion], tail[diversion]);
            }
            head[diversion] = -1;
            tail[diversion] = -1;
        }

        private void release(int diversion) {
            int at = head[diversion];
            for (int i = 0; i < BYTES && at >= 0; i++) {
                divertedCount--;
                at = chain[at];
            }
            chain[tail[diversion]] = free;
            free = head[diversion];
        }
    }

    /** The tokens of the second processor, chained to rows, and the bytes that they are spelled by. */
    private static final class Tokens {
        static final int NAMED = 1, NUMBER = 2, TEXT = 3, CHARACTER = 4, OTHER = 5;
        static final int END = -1;
        static final int MADE = 60000, TEXTS = 65536;
        /** Those of one file, those that come of substituting, and those of arguments that are not replaced to their end. */
        private static final int NODES = 32768 + 40000 + 48000 + 16;
        private static final int ZERO_AT = MADE, ONE_AT = MADE + 1, TEXT_AT = MADE + 2;
        private static final int KINDS = 7, BEFORE = 8, FIRST = 16, SET_SHIFT = 5, SETS = 1023, LINE_SHIFT = 15;

        /** First the spellings that are made, then 0 and 1, then the texts of the files. */
        final byte[] bytes = new byte[TEXT_AT + TEXTS];
        private final char[] lines = new char[TEXTS];
        int made;
        private boolean overfull;
        int textEnd;
        /** The place of a token's spelling in its upper half, its length in the lower one. */
        final long[] spelling = new long[NODES];
        /** A token's kind, whether a blank stands before it, whether it is the first of its line, its set and its line. */
        final int[] look = new int[NODES];
        final int[] next = new int[NODES];
        int used;
        private int scanned;

        Tokens() {
            bytes[ZERO_AT] = '0';
            bytes[ONE_AT] = '1';
        }

        void clearAll() {
            made = 0;
            overfull = false;
            textEnd = TEXT_AT;
            used = 0;
        }

        static long spelled(int from, int length) {
            return (long) from << 32 | length;
        }

        static int fromOf(long spelling) {
            return (int) (spelling >>> 32);
        }

        static int lengthOf(long spelling) {
            return (int) spelling;
        }

        static int looking(int kind, boolean before, boolean first, int line) {
            return kind | (before ? BEFORE : 0) | (first ? FIRST : 0) | line << LINE_SHIFT;
        }

        static int withKind(int look, int kind) {
            return look & ~KINDS | kind;
        }

        static int withSet(int look, int set) {
            return look & ~(SETS << SET_SHIFT) | set << SET_SHIFT;
        }

        static int withLine(int look, int line) {
            return look & (1 << LINE_SHIFT) - 1 | line << LINE_SHIFT;
        }

        /** The look of a token that comes to another place: it is the first of its line no more. */
        static int moved(int look) {
            return look & ~FIRST;
        }

        /** A look with BEFORE and FIRST of another one. */
        static int placedAs(int look, int other) {
            return look & ~(BEFORE | FIRST) | other & (BEFORE | FIRST);
        }

        static int kindOf(int look) {
            return look & KINDS;
        }

        static boolean isBehindBlank(int look) {
            return (look & BEFORE) != 0;
        }

        static boolean isFirstLook(int look) {
            return (look & FIRST) != 0;
        }

        static int setOf(int look) {
            return look >> SET_SHIFT & SETS;
        }

        static int lineOf(int look) {
            return look >>> LINE_SHIFT;
        }

        int line(int token) {
            return look[token] >>> LINE_SHIFT;
        }

        int kind(int token) {
            return look[token] & KINDS;
        }

        int from(int token) {
            return (int) (spelling[token] >>> 32);
        }

        int length(int token) {
            return (int) spelling[token];
        }

        boolean isSign(int token, int sign) {
            return length(token) == 1 && bytes[from(token)] == sign;
        }

        boolean isSpelled(int token, String text) {
            int from = from(token);
            if (length(token) != text.length()) {
                return false;
            }
            for (int i = 0; i < text.length(); i++) {
                if (bytes[from + i] != text.charAt(i)) {
                    return false;
                }
            }
            return true;
        }

        boolean areSpelledSame(long a, long b) {
            return lengthOf(a) == lengthOf(b) && areSame(bytes, fromOf(a), bytes, fromOf(b), lengthOf(a));
        }

        /** Whether it is a TEXT (or a CHARACTER, if that is asked) without L. */
        boolean isNarrow(int token, int kind) {
            return kind(token) == kind && bytes[from(token)] != 'L';
        }

        int add(long spelled, int looks) {
            if (used >= NODES) {
                return END;
            }
            spelling[used] = spelled;
            look[used] = looks;
            next[used] = END;
            used++;
            return used - 1;
        }

        void becomeTruth(int token, boolean truth) {
            spelling[token] = spelled(truth ? ONE_AT : ZERO_AT, 1);
            look[token] = withKind(look[token], NUMBER);
        }

        void make(int b) {
            if (made >= MADE) {
                overfull = true;
                return;
            }
            bytes[made] = (byte) b;
            made++;
        }

        /** The same spelling once more, and where it is. */
        long makeCopy(long spelled) {
            int length = lengthOf(spelled);
            if (made + length > MADE) {
                overfull = true;
                return spelled;
            }
            System.arraycopy(bytes, fromOf(spelled), bytes, made, length);
            made += length;
            return spelled(made - length, length);
        }

        void makeNumber(int number) {
            for (int scale = 1000000000; scale > 0; scale /= 10) {
                if (number >= scale || scale == 1) {
                    make('0' + number / scale % 10);
                }
            }
        }

        boolean isOverfull() {
            return overfull;
        }

        /** A file's bytes behind the other texts, without each 92 before an LF and that. */
        void layText(byte[] source, int from, int length) {
            int line = 1;
            int end = from + length;
            for (int i = from; i < end && textEnd < TEXT_AT + TEXTS; i++) {
                if (source[i] == BACKSLASH && i + 1 < end && source[i + 1] == LF) {
                    i++;
                    line++;
                } else {
                    bytes[textEnd] = source[i];
                    lines[textEnd - TEXT_AT] = (char) line;
                    textEnd++;
                    if (source[i] == LF) {
                        line++;
                    }
                }
            }
        }

        int lineAt(int place) {
            return lines[place - TEXT_AT];
        }

        /** Where the token that begins at a place ends; its kind is kept. */
        int scan(int from, int limit) {
            int b = bytes[from];
            int quote = b == 'L' && from + 1 < limit ? from + 1 : from;
            if (bytes[quote] == DOUBLE_QUOTE || bytes[quote] == SINGLE_QUOTE) {
                int end = quoteEnd(quote, limit);
                if (end > 0) {
                    scanned = bytes[quote] == DOUBLE_QUOTE ? TEXT : CHARACTER;
                    return end;
                }
            }
            if (isLetter(b)) {
                scanned = NAMED;
                return nameEnd(from, limit);
            }
            if (isDigit(b) || b == '.' && from + 1 < limit && isDigit(bytes[from + 1])) {
                scanned = NUMBER;
                return numberEnd(from, limit);
            }
            scanned = OTHER;
            return signEnd(from, limit);
        }

        int scannedKind() {
            return scanned;
        }

        private int quoteEnd(int quote, int limit) {
            for (int at = quote + 1; at < limit && bytes[at] != LF; at++) {
                if (bytes[at] == bytes[quote]) {
                    return at + 1;
                }
                if (bytes[at] == BACKSLASH && at + 1 < limit && bytes[at + 1] != LF) {
                    at++;
                }
            }
            return 0;
        }

        private int nameEnd(int from, int limit) {
            int at = from + 1;
            while (at < limit && (isLetter(bytes[at]) || isDigit(bytes[at]))) {
                at++;
            }
            return at;
        }

        private int numberEnd(int from, int limit) {
            int at = from + 1;
            while (at < limit) {
                int b = bytes[at];
                int last = bytes[at - 1] | 32;
                boolean signed = (b == '+' || b == '-') && (last == 'e' || last == 'p');
                if (!signed && b != '.' && !isLetter(b) && !isDigit(b)) {
                    return at;
                }
                at++;
            }
            return at;
        }

        private int signEnd(int from, int limit) {
            int a = bytes[from];
            int b = from + 1 < limit ? bytes[from + 1] : 0;
            int c = from + 2 < limit ? bytes[from + 2] : 0;
            if (a == '.' && b == '.' && c == '.' || (a == '<' || a == '>') && b == a && c == '=') {
                return from + 3;
            }
            return isSignOfTwo(a, b) ? from + 2 : from + 1;
        }

        private static boolean isSignOfTwo(int a, int b) {
            if (b == '=') {
                return "<>=!*/%+-&^|".indexOf((char) (a & 255)) >= 0;
            }
            return a == b && "+-<>&|#".indexOf((char) (a & 255)) >= 0 || a == '-' && b == '>';
        }
    }

    /** The names that are or were macros of the second processor, what they mean, and sets of such names. */
    private static final class Macros {
        static final int MOST_PARAMETERS = 30;
        private static final int GONE = -2, PLAIN = -1;
        private static final int MOST_NAMES = 400, MOST_TOKENS = 8000, BUCKETS = 512;
        private static final int MOST_SETS = 1000, WORDS = 7, SET_BUCKETS = 2048;

        private final Tokens tokens;
        private final long[] name = new long[MOST_NAMES];
        private final int[] bucket = new int[BUCKETS];
        private final int[] chain = new int[MOST_NAMES];
        private int names;
        int there;
        /** How many parameters each has; PLAIN without, GONE when the name is no macro. */
        final int[] parameters = new int[MOST_NAMES];
        final boolean[] takesMore = new boolean[MOST_NAMES];
        /** Where its parameters begin in the rows below; its tokens come behind these. */
        private final int[] start = new int[MOST_NAMES];
        private final int[] end = new int[MOST_NAMES];
        final long[] spelling = new long[MOST_TOKENS];
        /** As of tokens; in place of the set the number of the parameter, from 1 on. */
        final int[] look = new int[MOST_TOKENS];
        private int used;
        /** A set is a row of bits, one for each name; set 0 is empty. */
        private final long[] bits = new long[(MOST_SETS + 1) * WORDS];
        private final int[] setBucket = new int[SET_BUCKETS];
        private final int[] setChain = new int[MOST_SETS + 1];
        private int sets;
        private final long[] common = new long[WORDS];
        private final long[] wanted = new long[WORDS];

        Macros(Tokens tokens) {
            this.tokens = tokens;
        }

        void clearAll() {
            Arrays.fill(bucket, -1);
            Arrays.fill(setBucket, -1);
            names = 0;
            there = 0;
            used = 0;
            sets = 0;
        }

        int find(byte[] source, int from, int length) {
            int found = bucket[hashOf(source, from, length) & BUCKETS - 1];
            for (int i = 0; i < MOST_NAMES && found >= 0; i++) {
                int at = Tokens.fromOf(name[found]);
                if (Tokens.lengthOf(name[found]) == length && areSame(tokens.bytes, at, source, from, length)) {
                    return found;
                }
                found = chain[found];
            }
            return -1;
        }

        boolean isThere(int macro) {
            return parameters[macro] != GONE;
        }

        boolean hasParameters(int macro) {
            return parameters[macro] >= 0;
        }

        int bodyFrom(int macro) {
            return start[macro] + Math.max(parameters[macro], 0);
        }

        int bodyEnd(int macro) {
            return end[macro];
        }

        /** Whether a macro is the same as one of these tokens would be; count is PLAIN without parameters. */
        boolean isSame(int macro, int[] parameterTokens, int count, boolean more, int from, int to) {
            if (parameters[macro] != count || takesMore[macro] != more || end[macro] - bodyFrom(macro) != to - from) {
                return false;
            }
            for (int i = 0; i < count; i++) {
                if (!tokens.areSpelledSame(spelling[start[macro] + i], tokens.spelling[parameterTokens[i]])) {
                    return false;
                }
            }
            int body = bodyFrom(macro);
            for (int i = 0; i < to - from; i++) {
                boolean before = Tokens.isBehindBlank(look[body + i]);
                if (i > 0 && before != Tokens.isBehindBlank(tokens.look[from + i])) {
                    return false;
                }
                if (!tokens.areSpelledSame(spelling[body + i], tokens.spelling[from + i])) {
                    return false;
                }
            }
            return true;
        }

        /** A macro that is not there gets a meaning; not, if there is no room for it. */
        boolean define(int nameToken, int[] parameterTokens, int count, boolean more, int from, int to) {
            int macro = find(tokens.bytes, tokens.from(nameToken), tokens.length(nameToken));
            int entries = Math.max(count, 0) + to - from;
            if (macro < 0 && names >= MOST_NAMES || used + entries > MOST_TOKENS) {
                return false;
            }
            int room = Tokens.MADE - tokens.made - (macro < 0 ? tokens.length(nameToken) : 0);
            for (int i = 0; i < count; i++) {
                room -= tokens.length(parameterTokens[i]);
            }
            for (int i = from; i < to; i++) {
                room -= tokens.length(i);
            }
            if (room < 0) {
                return false;
            }
            if (macro < 0) {
                macro = addName(nameToken);
            }
            start[macro] = used;
            for (int i = 0; i < count; i++) {
                addEntry(parameterTokens[i]);
            }
            for (int i = from; i < to; i++) {
                addEntry(i);
            }
            end[macro] = used;
            parameters[macro] = count;
            takesMore[macro] = more;
            there++;
            return true;
        }

        void undefine(int macro) {
            if (!isThere(macro)) {
                return;
            }
            int length = end[macro] - start[macro];
            System.arraycopy(spelling, end[macro], spelling, start[macro], used - end[macro]);
            System.arraycopy(look, end[macro], look, start[macro], used - end[macro]);
            for (int i = 0; i < names; i++) {
                if (isThere(i) && start[i] >= end[macro] && i != macro) {
                    start[i] -= length;
                    end[i] -= length;
                }
            }
            used -= length;
            parameters[macro] = GONE;
            there--;
        }

        private int addName(int token) {
            int place = hashOf(tokens.bytes, tokens.from(token), tokens.length(token)) & BUCKETS - 1;
            name[names] = tokens.makeCopy(tokens.spelling[token]);
            chain[names] = bucket[place];
            bucket[place] = names;
            names++;
            return names - 1;
        }

        private void addEntry(int token) {
            spelling[used] = tokens.makeCopy(tokens.spelling[token]);
            look[used] = tokens.look[token];
            used++;
        }

        boolean isHidden(int set, int macro) {
            return (bits[set * WORDS + (macro >> 6)] >>> (macro & 63) & 1) != 0;
        }

        /** Keeps what two sets have in common, and a name with it, to be put to the sets of tokens. */
        void keepCommon(int a, int b, int macro) {
            for (int i = 0; i < WORDS; i++) {
                common[i] = bits[a * WORDS + i] & bits[b * WORDS + i];
            }
            common[macro >> 6] |= 1L << (macro & 63);
        }

        /** The set that one becomes with what is kept; -1 if there is no room for it. */
        int joined(int set) {
            for (int i = 0; i < WORDS; i++) {
                wanted[i] = bits[set * WORDS + i] | common[i];
            }
            return findSet();
        }

        int shared(int a, int b) {
            for (int i = 0; i < WORDS; i++) {
                wanted[i] = bits[a * WORDS + i] & bits[b * WORDS + i];
            }
            return findSet();
        }

        private int findSet() {
            long hash = 0;
            for (int i = 0; i < WORDS; i++) {
                hash = hash * 31 + (wanted[i] ^ wanted[i] >>> 29);
            }
            int place = (int) (hash ^ hash >>> 32) & SET_BUCKETS - 1;
            if (isWanted(0)) {
                return 0;
            }
            int set = setBucket[place];
            for (int i = 0; i <= MOST_SETS && set >= 0; i++) {
                if (isWanted(set)) {
                    return set;
                }
                set = setChain[set];
            }
            if (sets >= MOST_SETS) {
                return -1;
            }
            sets++;
            System.arraycopy(wanted, 0, bits, sets * WORDS, WORDS);
            setChain[sets] = setBucket[place];
            setBucket[place] = sets;
            return sets;
        }

        private boolean isWanted(int set) {
            for (int i = 0; i < WORDS; i++) {
                if (bits[set * WORDS + i] != wanted[i]) {
                    return false;
                }
            }
            return true;
        }
    }

    /** The files that are begun, one within another, and the line that was taken last, with the row of text before it. */
    private static final class Lines {
        private static final int FRAMES = MOST_DEPTH + 1;
        private static final int MOST_BEGUN = 500, MOST_BYTES = 524288, MOST_LINES = 20000, MOST_QUOTES = 1000;

        private final Files files;
        private final Tokens tokens;
        private final Outcome outcome;
        /** Where each file's text lies among the bytes of tokens; -1 as long as it was not laid there. */
        private final int[] textFrom = new int[MOST_FILES];
        private final int[] textTo = new int[MOST_FILES];
        private final int[] rawLength = new int[MOST_FILES];
        private final int[] file = new int[FRAMES];
        private final int[] at = new int[FRAMES];
        /** What is to be added to a line for __LINE__. */
        private final int[] shift = new int[FRAMES];
        private final byte[] titles = new byte[FRAMES * TITLE_ROOM];
        private final int[] titleLength = new int[FRAMES];
        int depth;
        private int begun;
        private int begunBytes;
        private int lines;
        private int loneQuotes;
        /** The row of text has the first tokens, the line at hand those behind them. */
        int row;
        int count;
        private int lineBehind;

        Lines(Files files, Tokens tokens, Outcome outcome) {
            this.files = files;
            this.tokens = tokens;
            this.outcome = outcome;
        }

        void clearAll() {
            Arrays.fill(textFrom, -1);
            depth = 0;
            begun = 0;
            begunBytes = 0;
            lines = 0;
            loneQuotes = 0;
            row = 0;
            count = 0;
            lineBehind = 1;
        }

        void lay(int number, byte[] source, int from, int length) {
            textFrom[number] = tokens.textEnd;
            tokens.layText(source, from, length);
            textTo[number] = tokens.textEnd;
            rawLength[number] = length;
        }

        /** Begins a file within the one at hand; the line is that of the directive that wants it. */
        void begin(int number, int line) {
            if (textFrom[number] < 0) {
                lay(number, files.bytes, files.start[number], files.lengthOf(number));
            }
            if (depth >= FRAMES || begun >= MOST_BEGUN || begunBytes + rawLength[number] > MOST_BYTES) {
                outcome.fail(ROOM, line);
                return;
            }
            begun++;
            begunBytes += rawLength[number];
            file[depth] = number;
            at[depth] = textFrom[number];
            shift[depth] = 0;
            depth++;
            setTitle(files.titles, number * TITLE_ROOM, files.titleLength[number]);
            outcome.fileAtHand = number;
        }

        void endFile() {
            if (depth > 0) {
                depth--;
            }
            if (depth > 0) {
                outcome.fileAtHand = file[depth - 1];
            }
        }

        void setTitle(byte[] source, int from, int length) {
            if (depth > 0 && length <= TITLE_ROOM) {
                System.arraycopy(source, from, titles, (depth - 1) * TITLE_ROOM, length);
                titleLength[depth - 1] = length;
            }
        }

        /** The line behind the one at hand is told by a number from now on. */
        void setLine(int number) {
            if (depth > 0) {
                shift[depth - 1] = number - lineBehind;
            }
        }

        int toldLine(int line) {
            return depth > 0 ? line + shift[depth - 1] : line;
        }

        /** The title's byte i, or -1 behind its end. */
        int titleByte(int i) {
            if (depth == 0 || i >= titleLength[depth - 1]) {
                return -1;
            }
            return titles[(depth - 1) * TITLE_ROOM + i] & 255;
        }

        /** Takes the next line that has tokens; there is none at the file's end, or with an error. */
        boolean takeLine() {
            count = 0;
            int limit = depth > 0 ? textTo[file[depth - 1]] : 0;
            for (int i = 0; i < MANY && depth > 0 && at[depth - 1] < limit && count == 0 && outcome.isFine(); i++) {
                at[depth - 1] = takeTokens(at[depth - 1], limit);
            }
            if (count > 0 && outcome.isFine()) {
                lines++;
                if (lines > MOST_LINES) {
                    outcome.fail(ROOM, tokens.line(row));
                }
            }
            return count > 0 && outcome.isFine();
        }

        /** Takes the tokens of one line, and answers where the next one begins. */
        private int takeTokens(int from, int limit) {
            byte[] bytes = tokens.bytes;
            boolean behindBlank = true;
            int place = from;
            for (int i = 0; i < MANY && place < limit && outcome.isFine(); i++) {
                int b = bytes[place];
                int behind = place + 1 < limit ? bytes[place + 1] : 0;
                if (b == LF) {
                    lineBehind = tokens.lineAt(place) + 1;
                    return place + 1;
                }
                if (isBlank(b)) {
                    place++;
                    behindBlank = true;
                } else if (b == '/' && (behind == '/' || behind == '*')) {
                    place = commentEnd(place, limit);
                    behindBlank = true;
                } else {
                    place = takeToken(place, limit, behindBlank);
                    behindBlank = false;
                }
            }
            return place;
        }

        private int takeToken(int place, int limit, boolean behindBlank) {
            int end = tokens.scan(place, limit);
            int kind = tokens.scannedKind();
            int b = tokens.bytes[place];
            int line = tokens.lineAt(place);
            if (kind == Tokens.OTHER && (b == DOUBLE_QUOTE || b == SINGLE_QUOTE)) {
                loneQuotes++;
                if (loneQuotes > MOST_QUOTES) {
                    outcome.fail(ROOM, line);
                }
            }
            tokens.used = row + count;
            int token = tokens.add(Tokens.spelled(place, end - place), Tokens.looking(kind, behindBlank, count == 0, line));
            if (token >= 0) {
                tokens.next[token] = token + 1;
                count++;
            }
            return end;
        }

        private int commentEnd(int from, int limit) {
            byte[] bytes = tokens.bytes;
            boolean toLineEnd = bytes[from + 1] == '/';
            for (int place = from + 2; place < limit; place++) {
                if (toLineEnd && bytes[place] == LF) {
                    return place;
                }
                if (!toLineEnd && bytes[place] == '*' && place + 1 < limit && bytes[place + 1] == '/') {
                    return place + 2;
                }
            }
            if (!toLineEnd) {
                outcome.fail(COMMENT, tokens.lineAt(from));
            }
            return limit;
        }
    }

    /** Replaces the macros in rows of tokens, each of which has a set of names that hide it. */
    private static final class Replacer {
        private static final int DEEPEST = 60, MOST_SUBSTITUTED = 40000, MOST_IN_ROW = 8000;
        /** The row that a directive's tokens become; the others are what a call at each depth becomes. */
        private static final int DIRECTIVE_ROW = DEEPEST + 1, ROWS = DEEPEST + 2;
        private static final int PLACES = (DEEPEST + 1) * Macros.MOST_PARAMETERS;

        private final Tokens tokens;
        private final Macros macros;
        private final Lines lines;
        private final Outcome outcome;
        /** The arguments of the call at each depth, from their first token up to the one behind them. */
        private final int[] argumentFirst = new int[PLACES];
        private final int[] argumentStop = new int[PLACES];
        /** What an argument became when it was replaced, and what that took: it would be the same again. */
        private final int[] keptFirst = new int[PLACES];
        private final int[] keptLast = new int[PLACES];
        private final int[] keptCount = new int[PLACES];
        private final int[] keptSubstituted = new int[PLACES];
        private final int[] keptMade = new int[PLACES];
        private final int[] head = new int[ROWS];
        private final int[] tail = new int[ROWS];
        private final int[] count = new int[ROWS];
        private boolean printing;
        private int directiveLine;

        Replacer(Tokens tokens, Macros macros, Lines lines, Outcome outcome) {
            this.tokens = tokens;
            this.macros = macros;
            this.lines = lines;
            this.outcome = outcome;
        }

        /** Replaces a row of text, and puts out what it becomes. */
        void replaceText(int first) {
            printing = true;
            replace(first, Tokens.END, 0);
        }

        /** Replaces a directive's tokens: the first one of what they become. */
        int replaceDirective(int first, int line) {
            printing = false;
            directiveLine = line;
            clearRow(DIRECTIVE_ROW);
            replace(first, Tokens.END, 0);
            return head[DIRECTIVE_ROW];
        }

        private void replace(int first, int stop, int depth) {
            int at = first;
            for (int step = 0; step < MANY && at != stop && outcome.isFine(); step++) {
                int macro = macroAt(at, stop);
                if (macro >= 0) {
                    at = call(at, stop, macro, depth);
                } else {
                    leave(at, stop, depth);
                    at = tokens.next[at];
                }
            }
        }

        /** The macro that is to be replaced at a token, or -1. */
        private int macroAt(int at, int stop) {
            int look = tokens.look[at];
            if (Tokens.kindOf(look) != Tokens.NAMED) {
                return -1;
            }
            int macro = macros.find(tokens.bytes, tokens.from(at), tokens.length(at));
            if (macro < 0 || !macros.isThere(macro) || macros.isHidden(Tokens.setOf(look), macro)) {
                return -1;
            }
            int behind = tokens.next[at];
            boolean isCall = !macros.hasParameters(macro) || behind != stop && tokens.isSign(behind, '(');
            return isCall ? macro : -1;
        }

        private void leave(int at, int stop, int depth) {
            long spelling = tokens.spelling[at];
            int look = tokens.look[at];
            if (Tokens.kindOf(look) == Tokens.NAMED && tokens.isSpelled(at, "__LINE__")) {
                spelling = spellLine(at);
                look = Tokens.withKind(look, Tokens.NUMBER);
            } else if (Tokens.kindOf(look) == Tokens.NAMED && tokens.isSpelled(at, "__FILE__")) {
                spelling = spellFile(at);
                look = Tokens.withKind(look, Tokens.TEXT);
            }
            if (!outcome.isFine()) {
                return;
            }
            if (depth > 0) {
                append(depth - 1, spelling, Tokens.moved(look));
            } else if (!printing) {
                keepForDirective(spelling, look);
            } else {
                putOut(spelling, look);
                if (outcome.isFine() && macroAt(at, stop) >= 0) {
                    outcome.astray++;
                }
            }
        }

        private long spellLine(int at) {
            int from = tokens.made;
            tokens.makeNumber(lines.toldLine(tokens.line(at)));
            return spelledSince(from, tokens.line(at));
        }

        private long spellFile(int at) {
            int from = tokens.made;
            tokens.make(DOUBLE_QUOTE);
            for (int i = 0; i < TITLE_ROOM && lines.titleByte(i) >= 0; i++) {
                int b = lines.titleByte(i);
                if (b == BACKSLASH || b == DOUBLE_QUOTE) {
                    tokens.make(BACKSLASH);
                }
                tokens.make(b);
            }
            tokens.make(DOUBLE_QUOTE);
            return spelledSince(from, tokens.line(at));
        }

        /** The spelling that was made from a place on; an error if there was no room for it. */
        private long spelledSince(int from, int line) {
            if (tokens.isOverfull()) {
                outcome.fail(ROOM, line);
            }
            return Tokens.spelled(from, tokens.made - from);
        }

        private void putOut(long spelling, int look) {
            int length = Tokens.lengthOf(spelling);
            int between = outcome.putOut > 0 ? 1 : 0;
            if (outcome.size + between + length + 1 > Outcome.BYTES) {
                outcome.fail(ROOM, Tokens.lineOf(look));
                return;
            }
            if (between > 0) {
                outcome.out[outcome.size] = (byte) (Tokens.isFirstLook(look) ? LF : ' ');
                outcome.size++;
            }
            System.arraycopy(tokens.bytes, Tokens.fromOf(spelling), outcome.out, outcome.size, length);
            outcome.size += length;
            outcome.putOut++;
        }

        private void keepForDirective(long spelling, int look) {
            if (count[DIRECTIVE_ROW] >= MOST_IN_ROW) {
                outcome.fail(ROOM, directiveLine);
            } else {
                append(DIRECTIVE_ROW, spelling, look);
            }
        }

        private void clearRow(int row) {
            head[row] = Tokens.END;
            tail[row] = Tokens.END;
            count[row] = 0;
        }

        private void append(int row, long spelling, int look) {
            int token = tokens.add(spelling, look);
            if (token < 0) {
                outcome.fail(ROOM, Tokens.lineOf(look));
                return;
            }
            if (tail[row] == Tokens.END) {
                head[row] = token;
            } else {
                tokens.next[tail[row]] = token;
            }
            tail[row] = token;
            count[row]++;
        }

        /** A token comes of substituting; the line is that of the macro's name. */
        private void put(int depth, long spelling, int look, int line) {
            if (outcome.substituted >= MOST_SUBSTITUTED) {
                outcome.fail(ROOM, line);
                return;
            }
            outcome.substituted++;
            append(depth, spelling, Tokens.moved(look));
        }

        /** Replaces the call at a token: the first one of what comes then. */
        private int call(int at, int stop, int macro, int depth) {
            int closing = at;
            int line = tokens.line(at);
            if (macros.hasParameters(macro)) {
                closing = gatherArguments(at, stop, macro, depth);
            }
            clearRow(depth);
            int end = macros.bodyEnd(macro);
            int step;
            for (int i = macros.bodyFrom(macro); i < end && outcome.isFine(); i += step) {
                int parameter = parameterAt(i, end);
                int behind = parameterAt(i + 1, end);
                step = 1;
                if (behind >= 0 && isHash(i)) {
                    putText(depth, behind, macros.look[i], line);
                    step = 2;
                } else if (isPasting(i, end)) {
                    if (behind < 0) {
                        paste(depth, macros.spelling[i + 1], Tokens.withLine(Tokens.withSet(macros.look[i + 1], 0), line), line);
                    } else if (!isEmpty(depth, behind)) {
                        int token = argumentFirst[depth * Macros.MOST_PARAMETERS + behind];
                        paste(depth, tokens.spelling[token], tokens.look[token], line);
                        putArgument(depth, behind, 1, line);
                    }
                    step = 2;
                } else if (parameter < 0) {
                    put(depth, macros.spelling[i], Tokens.withLine(Tokens.withSet(macros.look[i], 0), line), line);
                } else if (!isPasting(i + 1, end)) {
                    putReplaced(depth, parameter, line);
                } else if (!isEmpty(depth, parameter)) {
                    putArgument(depth, parameter, 0, line);
                } else {
                    int second = parameterAt(i + 2, end);
                    if (second >= 0) {
                        putArgument(depth, second, 0, line);
                    }
                    step = second >= 0 ? 3 : 2;
                }
            }
            return outcome.isFine() ? finishCall(at, closing, macro, depth) : stop;
        }

        /** The number of the parameter that a macro's token is, from 0 on, or -1. */
        private int parameterAt(int i, int end) {
            return i < end ? Tokens.setOf(macros.look[i]) - 1 : -1;
        }

        private boolean isHash(int i) {
            return Tokens.lengthOf(macros.spelling[i]) == 1 && tokens.bytes[Tokens.fromOf(macros.spelling[i])] == HASH;
        }

        /** Whether a macro's token is ## with one behind it. */
        private boolean isPasting(int i, int end) {
            if (i + 1 >= end || Tokens.lengthOf(macros.spelling[i]) != 2) {
                return false;
            }
            int from = Tokens.fromOf(macros.spelling[i]);
            return tokens.bytes[from] == HASH && tokens.bytes[from + 1] == HASH;
        }

        private boolean isEmpty(int depth, int parameter) {
            int place = depth * Macros.MOST_PARAMETERS + parameter;
            return argumentFirst[place] == argumentStop[place];
        }

        /** Finds the arguments of a call: its closing parenthesis. */
        private int gatherArguments(int at, int stop, int macro, int depth) {
            int parameters = macros.parameters[macro];
            int unparted = macros.takesMore[macro] ? parameters - 1 : MANY;
            int place = depth * Macros.MOST_PARAMETERS;
            int first = tokens.next[tokens.next[at]];
            int token = first;
            int nesting = 0;
            int arguments = 0;
            argumentFirst[place] = token;
            for (int step = 0; step < MANY && token != stop && (nesting > 0 || !tokens.isSign(token, ')')); step++) {
                if (tokens.isSign(token, '(')) {
                    nesting++;
                } else if (tokens.isSign(token, ')')) {
                    nesting--;
                } else if (tokens.isSign(token, ',') && nesting == 0 && arguments < unparted) {
                    endArgument(place, arguments, token);
                    arguments++;
                }
                token = tokens.next[token];
            }
            if (token == stop) {
                outcome.fail(CALL, tokens.line(at));
                return at;
            }
            endArgument(place, arguments, token);
            arguments++;
            if (parameters == 0 && first == token) {
                arguments = 0;
            }
            if (arguments != parameters) {
                outcome.fail(ARGUMENTS, tokens.line(at));
            }
            return token;
        }

        private void endArgument(int place, int argument, int token) {
            if (argument < Macros.MOST_PARAMETERS) {
                argumentStop[place + argument] = token;
                keptCount[place + argument] = -1;
            }
            if (argument + 1 < Macros.MOST_PARAMETERS) {
                argumentFirst[place + argument + 1] = tokens.next[token];
            }
        }

        private void putArgument(int depth, int parameter, int without, int line) {
            int place = depth * Macros.MOST_PARAMETERS + parameter;
            int token = argumentFirst[place];
            for (int i = 0; i < MANY && token != argumentStop[place] && outcome.isFine(); i++) {
                if (i >= without) {
                    put(depth, tokens.spelling[token], tokens.look[token], line);
                }
                token = tokens.next[token];
            }
        }

        private void putReplaced(int depth, int parameter, int line) {
            int place = depth * Macros.MOST_PARAMETERS + parameter;
            if (keptCount[place] >= 0 && hasRoomForKept(place)) {
                putKept(depth, place, line);
                return;
            }
            if (depth >= DEEPEST) {
                outcome.fail(DEEP, line);
                return;
            }
            int substituted = outcome.substituted;
            int made = tokens.made;
            int last = tail[depth];
            int before = count[depth];
            replace(argumentFirst[place], argumentStop[place], depth + 1);
            if (!outcome.isFine()) {
                return;
            }
            keptCount[place] = count[depth] - before;
            keptFirst[place] = last == Tokens.END ? head[depth] : tokens.next[last];
            keptLast[place] = tail[depth];
            keptSubstituted[place] = outcome.substituted - substituted;
            keptMade[place] = tokens.made - made;
            outcome.substituted += keptCount[place];
            if (outcome.substituted > MOST_SUBSTITUTED) {
                outcome.substituted = MOST_SUBSTITUTED;
                outcome.fail(ROOM, line);
            }
        }

        /** Without room for all of it the argument is replaced anew, to find where the room ends. */
        private boolean hasRoomForKept(int place) {
            return outcome.substituted + keptSubstituted[place] <= MOST_SUBSTITUTED
                    && tokens.made + keptMade[place] <= Tokens.MADE;
        }

        private void putKept(int depth, int place, int line) {
            outcome.substituted += keptSubstituted[place];
            tokens.made += keptMade[place];
            int token = keptFirst[place];
            for (int i = 0; i < keptCount[place] && outcome.isFine(); i++) {
                put(depth, tokens.spelling[token], tokens.look[token], line);
                token = tokens.next[token];
            }
        }

        /** # and a parameter: one TEXT of its argument. */
        private void putText(int depth, int parameter, int hashLook, int line) {
            int place = depth * Macros.MOST_PARAMETERS + parameter;
            int from = tokens.made;
            int token = argumentFirst[place];
            tokens.make(DOUBLE_QUOTE);
            for (int i = 0; i < MANY && token != argumentStop[place] && !tokens.isOverfull(); i++) {
                if (i > 0 && Tokens.isBehindBlank(tokens.look[token])) {
                    tokens.make(' ');
                }
                spellWithin(token);
                token = tokens.next[token];
            }
            tokens.make(DOUBLE_QUOTE);
            long spelling = spelledSince(from, line);
            if (outcome.isFine()) {
                int look = Tokens.withKind(Tokens.withSet(hashLook, 0), Tokens.TEXT);
                put(depth, spelling, Tokens.withLine(look, line), line);
            }
        }

        private void spellWithin(int token) {
            boolean quoted = tokens.kind(token) == Tokens.TEXT || tokens.kind(token) == Tokens.CHARACTER;
            int from = tokens.from(token);
            int end = from + tokens.length(token);
            for (int i = from; i < end && !tokens.isOverfull(); i++) {
                int b = tokens.bytes[i];
                if (quoted && (b == DOUBLE_QUOTE || b == BACKSLASH)) {
                    tokens.make(BACKSLASH);
                }
                tokens.make(b);
            }
        }

        /** Pastes a token to the last one so far; with none before it comes alone. */
        private void paste(int depth, long spelling, int look, int line) {
            int left = tail[depth];
            if (left == Tokens.END) {
                put(depth, spelling, look, line);
                return;
            }
            int from = tokens.made;
            tokens.makeCopy(tokens.spelling[left]);
            tokens.makeCopy(spelling);
            long pasted = spelledSince(from, line);
            if (!outcome.isFine()) {
                return;
            }
            if (tokens.scan(from, tokens.made) != tokens.made) {
                outcome.fail(PASTE, line);
                return;
            }
            int set = macros.shared(Tokens.setOf(tokens.look[left]), Tokens.setOf(look));
            if (set < 0) {
                outcome.fail(ROOM, line);
                return;
            }
            tokens.spelling[left] = pasted;
            tokens.look[left] = Tokens.withSet(Tokens.withKind(tokens.look[left], tokens.scannedKind()), set);
            forgetKept(depth, left);
        }

        /** What an argument became is not that any more if another token is pasted to its last one. */
        private void forgetKept(int depth, int pasted) {
            int place = depth * Macros.MOST_PARAMETERS;
            for (int i = 0; i < Macros.MOST_PARAMETERS; i++) {
                if (keptLast[place + i] == pasted) {
                    keptCount[place + i] = -1;
                }
            }
        }

        /** Puts the set to each token's own and the row before what is behind the call: the first one of that. */
        private int finishCall(int at, int closing, int macro, int depth) {
            int behind = tokens.next[closing];
            int line = tokens.line(at);
            int token = head[depth];
            macros.keepCommon(Tokens.setOf(tokens.look[at]), Tokens.setOf(tokens.look[closing]), macro);
            int own = -1;
            int joined = 0;
            for (int i = 0; i < count[depth] && joined >= 0; i++) {
                if (Tokens.setOf(tokens.look[token]) != own) {
                    own = Tokens.setOf(tokens.look[token]);
                    joined = macros.joined(own);
                }
                tokens.look[token] = Tokens.withSet(tokens.look[token], Math.max(joined, 0));
                token = tokens.next[token];
            }
            if (joined < 0) {
                outcome.fail(ROOM, line);
            }
            if (count[depth] == 0) {
                return behind;
            }
            tokens.next[tail[depth]] = behind;
            tokens.look[head[depth]] = Tokens.placedAs(tokens.look[head[depth]], tokens.look[at]);
            return head[depth];
        }
    }

    /** The second processor: takes lines, obeys directives and has rows of text replaced. */
    private static final class Second {
        private static final int MOST_IN_ROW = 8000, MOST_CONDITIONS = 100;
        private static final int NOTHING = -1, NO_WORD = 0, DEFINE_WORD = 1, UNDEF_WORD = 2, IFDEF_WORD = 3, IFNDEF_WORD = 4, INCLUDE_WORD = 5,
                IF_WORD = 6, ELIF_WORD = 7, ELSE_WORD = 8, ENDIF_WORD = 9, LINE_WORD = 10, ERROR_WORD = 11, PRAGMA_WORD = 12;
        /** In the order of their numbers. */
        private static final String WORDS = "define undef ifdef ifndef include if elif else endif line error pragma ";
        /** Of a condition: its part at hand counts, one has counted, else came, all of it is within a part that doesn't count. */
        private static final int COUNTS = 1, HAS_COUNTED = 2, HAD_ELSE = 4, DEAD = 8;
        private static final int NO_TITLE = -2;
        private static final String ESCAPES = "ntrabfv0\\'\"?";
        private static final int[] ESCAPED = {10, 9, 13, 7, 8, 12, 11, 0, 92, 39, 34, 63};

        private final Files files;
        private final Outcome outcome;
        private final Reckoner reckoner;
        private final Tokens tokens = new Tokens();
        final Macros macros = new Macros(tokens);
        private final Lines lines;
        private final Replacer replacer;
        private final int[] conditionLine = new int[MOST_CONDITIONS];
        private final int[] condition = new int[MOST_CONDITIONS];
        private int conditions;
        /** How many conditions were open when each file began. */
        private final int[] conditionsBefore = new int[MOST_DEPTH + 2];
        private int depthLimit;
        /** The directive at hand: its tokens, and the word whose tokens must be replaced before it is obeyed. */
        private int from;
        private int to;
        private int line;
        private int waiting;
        private int waitingFirst;
        private final int[] parameterTokens = new int[Macros.MOST_PARAMETERS];
        private int parameterCount;
        private boolean takesMore;
        private final byte[] title = new byte[TITLE_ROOM];
        private int titleLength;

        Second(Files files, Outcome outcome, Reckoner reckoner) {
            this.files = files;
            this.outcome = outcome;
            this.reckoner = reckoner;
            lines = new Lines(files, tokens, outcome);
            replacer = new Replacer(tokens, macros, lines, outcome);
            forget();
        }

        void forget() {
            tokens.clearAll();
            macros.clearAll();
            lines.clearAll();
            conditions = 0;
        }

        void process(int main, boolean fromOut, int depth) {
            depthLimit = depth;
            if (fromOut) {
                lines.lay(main, outcome.out, 0, outcome.size);
            }
            outcome.size = 0;
            conditionsBefore[0] = 0;
            lines.begin(main, 1);
            for (int round = 0; round < MANY && lines.depth > 0 && outcome.isFine(); round++) {
                boolean taken = lines.takeLine();
                boolean isDirective = taken && tokens.isSign(lines.row, HASH);
                from = lines.row;
                to = from + lines.count;
                waiting = NO_WORD;
                if (outcome.isFine() && from > 0 && (isDirective || !taken)) {
                    tokens.used = to;
                    tokens.next[from - 1] = Tokens.END;
                    replacer.replaceText(0);
                }
                if (!outcome.isFine()) {
                    return;
                }
                if (isDirective) {
                    lines.row = 0;
                    line = tokens.line(from);
                    obey(to - from > 1 ? wordOf(from + 1) : NOTHING);
                } else if (taken) {
                    keepText();
                } else {
                    endFile();
                }
                if (waiting != NO_WORD && outcome.isFine()) {
                    tokens.used = to;
                    finishDirective(replacer.replaceDirective(waitingFirst, line));
                }
            }
            if (outcome.isFine() && outcome.putOut > 0) {
                outcome.out[outcome.size] = LF;
                outcome.size++;
            }
        }

        private void fail(int number) {
            outcome.fail(number, line);
        }

        private void keepText() {
            if (!isCounting()) {
                return;
            }
            if (to > MOST_IN_ROW) {
                outcome.fail(ROOM, tokens.line(MOST_IN_ROW));
                return;
            }
            lines.row = to;
        }

        private void endFile() {
            lines.row = 0;
            if (conditions > conditionsBefore[lines.depth - 1]) {
                outcome.fail(ENDIF, conditionLine[conditions - 1]);
                return;
            }
            lines.endFile();
        }

        private boolean isCounting() {
            return conditions == 0 || (condition[conditions - 1] & COUNTS) != 0;
        }

        private void obey(int word) {
            boolean counting = isCounting();
            switch (word) {
                case NOTHING:
                    break;
                case IF_WORD:
                case IFDEF_WORD:
                case IFNDEF_WORD:
                    if (!counting) {
                        openCondition(DEAD);
                    } else if (word == IF_WORD) {
                        waitForCondition(word);
                    } else if (isNameAlone()) {
                        openCondition(isMacro(from + 2) == (word == IFDEF_WORD) ? COUNTS | HAS_COUNTED : 0);
                    }
                    break;
                case ELIF_WORD:
                case ELSE_WORD:
                case ENDIF_WORD:
                    if (continueCondition(word)) {
                        waitForCondition(word);
                    }
                    break;
                case DEFINE_WORD:
                    if (counting) {
                        define();
                    }
                    break;
                case INCLUDE_WORD:
                    if (counting) {
                        include();
                    }
                    break;
                default:
                    if (counting) {
                        obeyOther(word);
                    }
                    break;
            }
        }

        private int wordOf(int token) {
            int number = DEFINE_WORD;
            int matched = 0;
            for (int i = 0; i < WORDS.length() && tokens.kind(token) == Tokens.NAMED; i++) {
                if (WORDS.charAt(i) != ' ') {
                    boolean matches = matched >= 0 && matched < tokens.length(token)
                            && tokens.bytes[tokens.from(token) + matched] == WORDS.charAt(i);
                    matched = matches ? matched + 1 : -1;
                } else if (matched == tokens.length(token)) {
                    return number;
                } else {
                    number++;
                    matched = 0;
                }
            }
            return NO_WORD;
        }

        private void obeyOther(int word) {
            switch (word) {
                case UNDEF_WORD:
                    if (isNameAlone() && isMacro(from + 2)) {
                        macros.undefine(findMacro(from + 2));
                    }
                    break;
                case LINE_WORD:
                    waitForTokens(word);
                    break;
                case ERROR_WORD:
                    fail(ERROR);
                    break;
                case PRAGMA_WORD:
                    failIfTooLong();
                    break;
                default:
                    fail(DIRECTIVE);
                    break;
            }
        }

        private void failIfTooLong() {
            if (to - from > MOST_IN_ROW) {
                fail(ROOM);
            }
        }

        /** The tokens behind the word are to be replaced as they stand. */
        private void waitForTokens(int word) {
            failIfTooLong();
            waitingFirst = from + 2 < to ? from + 2 : Tokens.END;
            tokens.next[to - 1] = Tokens.END;
            waiting = word;
        }

        private boolean isName(int token) {
            if (token >= to || tokens.kind(token) != Tokens.NAMED) {
                return false;
            }
            return !tokens.isSpelled(token, "defined") && !tokens.isSpelled(token, "__LINE__")
                    && !tokens.isSpelled(token, "__FILE__") && !tokens.isSpelled(token, "__VA_ARGS__");
        }

        private boolean isNameAlone() {
            if (!isName(from + 2)) {
                fail(NAME);
            } else if (from + 3 < to) {
                fail(MORE);
            }
            return outcome.isFine();
        }

        private int findMacro(int token) {
            return macros.find(tokens.bytes, tokens.from(token), tokens.length(token));
        }

        private boolean isMacro(int token) {
            int macro = findMacro(token);
            return macro >= 0 && macros.isThere(macro);
        }

        private void openCondition(int state) {
            if (conditions >= MOST_CONDITIONS) {
                fail(ROOM);
                return;
            }
            condition[conditions] = state;
            conditionLine[conditions] = line;
            conditions++;
        }

        /** Obeys what belongs to a condition that is open, and tells whether an elif's tokens are to be looked at. */
        private boolean continueCondition(int word) {
            boolean isThere = conditions > conditionsBefore[lines.depth - 1];
            int state = isThere ? condition[conditions - 1] : 0;
            boolean hasCounted = (state & HAS_COUNTED) != 0;
            if ((state & DEAD) != 0) {
                conditions -= word == ENDIF_WORD ? 1 : 0;
            } else if (word != ELIF_WORD && to - from > 2) {
                fail(MORE);
            } else if (!isThere || word != ENDIF_WORD && (state & HAD_ELSE) != 0) {
                fail(BALANCE);
            } else if (word == ENDIF_WORD) {
                conditions--;
            } else if (word == ELSE_WORD) {
                condition[conditions - 1] = HAD_ELSE | HAS_COUNTED | (hasCounted ? 0 : COUNTS);
            } else if (hasCounted) {
                condition[conditions - 1] = HAS_COUNTED;
            } else {
                return true;
            }
            return false;
        }

        /** What is asked by defined becomes 1 or 0; the tokens then are to be replaced. */
        private void waitForCondition(int word) {
            int last = Tokens.END;
            int at = from + 2;
            waitingFirst = at < to ? at : Tokens.END;
            while (at < to) {
                if (last >= 0) {
                    tokens.next[last] = at;
                }
                last = at;
                if (tokens.kind(at) == Tokens.NAMED && tokens.isSpelled(at, "defined")) {
                    boolean wrapped = at + 3 < to && tokens.isSign(at + 1, '(') && tokens.isSign(at + 3, ')');
                    int name = wrapped ? at + 2 : at + 1;
                    if (name >= to || tokens.kind(name) != Tokens.NAMED) {
                        fail(CONDITION);
                        return;
                    }
                    tokens.becomeTruth(at, isMacro(name));
                    at = wrapped ? name + 1 : name;
                }
                at++;
            }
            if (last >= 0) {
                tokens.next[last] = Tokens.END;
            }
            failIfTooLong();
            waiting = word;
        }

        private void finishDirective(int first) {
            if (!outcome.isFine()) {
                return;
            }
            if (waiting == LINE_WORD) {
                setLine(first);
                return;
            }
            if (waiting == INCLUDE_WORD) {
                int behind = readTitle(first);
                if (behind == NO_TITLE) {
                    fail(INCLUDE);
                } else {
                    beginTitled(behind);
                }
                return;
            }
            boolean holds = evaluate(first);
            if (!outcome.isFine()) {
                return;
            }
            if (waiting == IF_WORD) {
                openCondition(holds ? COUNTS | HAS_COUNTED : 0);
            } else {
                condition[conditions - 1] = holds ? COUNTS | HAS_COUNTED : 0;
            }
        }

        private boolean evaluate(int first) {
            int token = first;
            reckoner.begin(true);
            for (int step = 0; step < MANY && token != Tokens.END; step++) {
                int length = tokens.length(token);
                int kind = tokens.kind(token);
                int place = tokens.from(token);
                if (kind == Tokens.NAMED) {
                    reckoner.takeNumber(0, false);
                } else if (kind == Tokens.NUMBER) {
                    takeNumber(place, place + length);
                } else if (kind == Tokens.CHARACTER) {
                    takeCharacter(place, length);
                } else if (kind == Tokens.OTHER && length <= 2) {
                    reckoner.takeSign(tokens.bytes[place] | (length == 2 ? tokens.bytes[place + 1] << 8 : 0));
                } else {
                    reckoner.spoil();
                }
                token = tokens.next[token];
            }
            if (!reckoner.finish()) {
                fail(CONDITION);
            } else if (reckoner.hasDividedByZero()) {
                fail(DIVISION);
            }
            return reckoner.value() != 0;
        }

        private void takeNumber(int place, int end) {
            byte[] bytes = tokens.bytes;
            boolean behindZero = bytes[place] == '0';
            boolean isHex = behindZero && place + 1 < end && (bytes[place + 1] | 32) == 'x';
            int base = isHex ? 16 : behindZero ? 8 : 10;
            int begin = isHex ? place + 2 : place;
            int at = begin;
            long value = 0;
            while (at < end && digitOf(bytes[at]) < base) {
                if (isTooLarge(value, base, digitOf(bytes[at]))) {
                    reckoner.spoil();
                }
                value = value * base + digitOf(bytes[at]);
                at++;
            }
            int suffix = suffixOf(at, end);
            if (at == begin || suffix < 0 || suffix == 0 && base == 10 && value < 0) {
                reckoner.spoil();
            }
            reckoner.takeNumber(value, suffix > 0 || value < 0);
        }

        private static int digitOf(int b) {
            if (isDigit(b)) {
                return b - '0';
            }
            int letter = b | 32;
            return letter >= 'a' && letter <= 'f' ? letter - 'a' + 10 : 99;
        }

        /** Whether a digit more makes a value that needs more than 64 bits. */
        private static boolean isTooLarge(long value, int base, int digit) {
            if (base == 10) {
                long most = 1844674407370955161L;
                return value < 0 || value > most || value == most && digit > 5;
            }
            return value >>> (base == 16 ? 60 : 61) != 0;
        }

        /** What stands behind a number's digits: 1 with a u, 0 without, -1 if it is not as it should be. */
        private int suffixOf(int from, int end) {
            byte[] bytes = tokens.bytes;
            int at = from;
            boolean hasU = at < end && (bytes[at] | 32) == 'u';
            at += hasU ? 1 : 0;
            if (at < end && (bytes[at] | 32) == 'l') {
                at += at + 1 < end && bytes[at + 1] == bytes[at] ? 2 : 1;
            }
            if (!hasU && at < end && (bytes[at] | 32) == 'u') {
                hasU = true;
                at++;
            }
            return at < end ? -1 : hasU ? 1 : 0;
        }

        private void takeCharacter(int place, int length) {
            int b = tokens.bytes[place + 1] & 255;
            int escape = length == 4 && b == BACKSLASH ? ESCAPES.indexOf((char) (tokens.bytes[place + 2] & 255)) : -1;
            if (tokens.bytes[place] == SINGLE_QUOTE && length == 3) {
                reckoner.takeNumber(b, false);
            } else if (tokens.bytes[place] == SINGLE_QUOTE && escape >= 0) {
                reckoner.takeNumber(ESCAPED[escape], false);
            } else {
                reckoner.spoil();
            }
        }

        private void setLine(int first) {
            boolean fits = first != Tokens.END && tokens.kind(first) == Tokens.NUMBER && tokens.length(first) <= 9;
            int number = 0;
            for (int i = 0; fits && i < tokens.length(first); i++) {
                int b = tokens.bytes[tokens.from(first) + i];
                fits = isDigit(b);
                number = number * 10 + b - '0';
            }
            int text = fits ? tokens.next[first] : Tokens.END;
            if (text != Tokens.END) {
                fits = tokens.isNarrow(text, Tokens.TEXT) && tokens.length(text) <= TITLE_ROOM + 2 && tokens.next[text] == Tokens.END;
            }
            if (!fits || number == 0) {
                fail(LINE);
                return;
            }
            lines.setLine(number);
            if (text != Tokens.END) {
                lines.setTitle(tokens.bytes, tokens.from(text) + 1, tokens.length(text) - 2);
            }
        }

        private void include() {
            tokens.next[to - 1] = Tokens.END;
            int behind = readTitle(from + 2 < to ? from + 2 : Tokens.END);
            if (behind == NO_TITLE) {
                waitForTokens(INCLUDE_WORD);
            } else {
                beginTitled(behind);
            }
        }

        /** Reads a title from a token on: the token behind it, or NO_TITLE. */
        private int readTitle(int first) {
            titleLength = 0;
            if (first == Tokens.END) {
                return NO_TITLE;
            }
            if (tokens.isNarrow(first, Tokens.TEXT)) {
                addToTitle(tokens.from(first) + 1, tokens.length(first) - 2);
                return tokens.next[first];
            }
            if (!tokens.isSign(first, '<')) {
                return NO_TITLE;
            }
            int token = tokens.next[first];
            for (int i = 0; i < MANY && token != Tokens.END && !tokens.isSign(token, '>'); i++) {
                if (i > 0 && Tokens.isBehindBlank(tokens.look[token])) {
                    addBlankToTitle();
                }
                addToTitle(tokens.from(token), tokens.length(token));
                token = tokens.next[token];
            }
            return token == Tokens.END ? NO_TITLE : tokens.next[token];
        }

        private void addBlankToTitle() {
            if (titleLength < TITLE_ROOM) {
                title[titleLength] = ' ';
            }
            titleLength++;
        }

        private void addToTitle(int place, int length) {
            if (titleLength + length <= TITLE_ROOM) {
                System.arraycopy(tokens.bytes, place, title, titleLength, length);
            }
            titleLength += length;
        }

        private void beginTitled(int behind) {
            int file = titleLength <= TITLE_ROOM ? files.find(title, titleLength) : -1;
            if (behind != Tokens.END) {
                fail(MORE);
            } else if (file < 0) {
                fail(MISSING);
            } else if (lines.depth > depthLimit) {
                fail(NESTED);
            } else {
                lines.begin(file, line);
                conditionsBefore[lines.depth - 1] = conditions;
            }
        }

        private void define() {
            int name = from + 2;
            int body = name + 1;
            parameterCount = Macros.PLAIN;
            takesMore = false;
            if (!isName(name)) {
                fail(NAME);
                return;
            }
            if (body < to && tokens.isSign(body, '(') && !Tokens.isBehindBlank(tokens.look[body])) {
                body = readParameters(body + 1);
            }
            if (body < 0 || !markParameters(body)) {
                fail(PARAMETERS);
            } else if (!areHashesFine(body)) {
                fail(HASHES);
            } else if (!isMacro(name)) {
                failIfTooLong();
                if (outcome.isFine() && !macros.define(name, parameterTokens, parameterCount, takesMore, body, to)) {
                    fail(ROOM);
                }
            } else if (!macros.isSame(findMacro(name), parameterTokens, parameterCount, takesMore, body, to)) {
                fail(AGAIN);
            }
        }

        /** Reads parameters up to their ) : what is behind that, or -1. */
        private int readParameters(int first) {
            int at = first;
            parameterCount = 0;
            if (at < to && tokens.isSign(at, ')')) {
                return at + 1;
            }
            while (at + 1 < to && parameterCount < Macros.MOST_PARAMETERS && !takesMore) {
                takesMore = tokens.isSpelled(at, "...");
                boolean isName = tokens.kind(at) == Tokens.NAMED && !tokens.isSpelled(at, "__VA_ARGS__");
                if (!takesMore && (!isName || parameterOf(at) >= 0)) {
                    return -1;
                }
                parameterTokens[parameterCount] = at;
                parameterCount++;
                if (tokens.isSign(at + 1, ')')) {
                    return at + 2;
                }
                if (!tokens.isSign(at + 1, ',')) {
                    return -1;
                }
                at += 2;
            }
            return -1;
        }

        private int parameterOf(int token) {
            for (int i = 0; i < parameterCount; i++) {
                if (tokens.areSpelledSame(tokens.spelling[token], tokens.spelling[parameterTokens[i]])) {
                    return i;
                }
            }
            return -1;
        }

        /** Marks the parameters among a macro's tokens; not, if __VA_ARGS__ is one where it may not be. */
        private boolean markParameters(int body) {
            for (int i = body; i < to; i++) {
                if (tokens.kind(i) == Tokens.NAMED) {
                    boolean isMore = tokens.isSpelled(i, "__VA_ARGS__");
                    if (isMore && !takesMore) {
                        return false;
                    }
                    int parameter = isMore ? parameterCount - 1 : parameterOf(i);
                    tokens.look[i] = Tokens.withSet(tokens.look[i], parameter + 1);
                }
            }
            return true;
        }

        private boolean areHashesFine(int body) {
            if (body < to && (tokens.isSpelled(body, "##") || tokens.isSpelled(to - 1, "##"))) {
                return false;
            }
            for (int i = body; i < to && parameterCount >= 0; i++) {
                if (tokens.isSign(i, HASH) && (i + 1 >= to || Tokens.setOf(tokens.look[i + 1]) == 0)) {
                    return false;
                }
            }
            return true;
        }
    }
}
