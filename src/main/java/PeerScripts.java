import java.util.Arrays;

/**
 * Runs small scripts in which everything is a piece of text, and which talk with a peer.
 * All rows are made by the constructor and used again: no call makes an object.
 */
public final class PeerScripts {
    public static final int NONE = -1;

    private static final int TEXT_MAX = 200;
    private static final int VALUE_MAX = 20;
    private static final int WORDS_MAX = 8;
    private static final int DEPTH_MAX = 8;
    private static final int OPEN_MAX = 8;
    private static final int DIGITS_MAX = 10;
    private static final int FUEL_MAX = 100;
    private static final int NAMES = 26;
    private static final int STATES = 8;
    private static final int RULES_MAX = 20;
    private static final int INPUT_MAX = 40;
    private static final int TALK_SHOWN = 40;
    private static final int SAID = 256;
    private static final int GLOBAL = 0;

    private static final int OK = 0;
    private static final int ERROR = 1;
    private static final int RETURN = 2;
    private static final int BREAK = 3;
    private static final int CONTINUE = 4;
    private static final int OUT = 5;

    private static final int FINE = 0;
    private static final int BAD_FORM = 1;
    private static final int NO_COMMAND = 2;
    private static final int BAD_WORDS = 3;
    private static final int NO_VARIABLE = 4;
    private static final int NO_NUMBER = 5;
    private static final int BY_ZERO = 6;
    private static final int NO_ROOM = 7;
    private static final int TOO_DEEP = 8;
    private static final int LEFT_OUTSIDE = 9;

    private final Text text;
    private final Peer partner;
    private final Runner runner;

    public PeerScripts() {
        text = new Text();
        partner = new Peer();
        runner = new Runner(text, partner);
    }

    public boolean put(char c) {
        boolean allowed = isPrintable(c) || c == '\n';
        if (!allowed || text.wasRun || text.count >= TEXT_MAX) {
            return false;
        }
        text.letters[text.count] = c;
        text.count++;
        return true;
    }

    public void wipe() {
        text.count = 0;
        text.wasRun = false;
        runner.variables.open(GLOBAL);
        runner.procedures.forgetAll();
    }

    public boolean rule(int state, int on, int says, int next) {
        boolean allowed = isState(state) && isPrintableOrZero(on) && isPrintableOrZero(says) && isState(next);
        return allowed && partner.addRule(state, on, says, next);
    }

    public void reset() {
        partner.startAnew();
    }

    public int run(int fuel) {
        if (fuel < 1 || fuel > FUEL_MAX) {
            return NONE;
        }
        text.wasRun = true;
        runner.fuelGiven = fuel;
        runner.fuelLeft = fuel;
        return runner.leave(runner.runScript(0, text.count, GLOBAL, 0, false));
    }

    public int length() {
        return runner.result.sizeOf(0);
    }

    public int at(int k) {
        return runner.result.letterOf(0, k);
    }

    public int used() {
        return runner.fuelGiven - runner.fuelLeft;
    }

    public int size(int v) {
        return runner.variables.meant(GLOBAL, v).sizeOf(v);
    }

    public int letter(int v, int k) {
        return runner.variables.meant(GLOBAL, v).letterOf(v, k);
    }

    public boolean defined(int p) {
        return runner.procedures.has(p);
    }

    public int peer() {
        return partner.state;
    }

    public int pending() {
        return partner.inputCount;
    }

    public int buffered() {
        return partner.buffer.sizeOf(0);
    }

    public int talk() {
        return partner.log.count;
    }

    public int talked(int k) {
        return partner.log.beforeLatest(k);
    }

    private static boolean isPrintable(int c) {
        return c >= 32 && c <= 126;
    }

    private static boolean isPrintableOrZero(int c) {
        return c == 0 || isPrintable(c);
    }

    private static boolean isState(int state) {
        return state >= 0 && state < STATES;
    }

    private static boolean isDigit(int c) {
        return c >= '0' && c <= '9';
    }

    private static boolean isVariable(int c) {
        return c >= 'a' && c <= 'z';
    }

    private static boolean isProcedure(int c) {
        return c >= 'A' && c <= 'Z';
    }

    private static final class Text {
        private final char[] letters = new char[TEXT_MAX];
        private int count;
        private boolean wasRun;
    }

    /**
     * A row of values. One that is not there has the size NONE; one that is too long for a value (a braced word
     * may be) has a size above VALUE_MAX and no letters.
     */
    private static final class Values {
        private final char[] letters;
        private final int[] sizes;

        Values(int count) {
            letters = new char[count * VALUE_MAX];
            sizes = new int[count];
        }

        // The shortest methods look at their index themselves: they are called eight deep already.
        private boolean holds(int i) {
            return i >= 0 && i < sizes.length;
        }

        void forgetAll() {
            Arrays.fill(sizes, NONE);
        }

        int sizeOf(int i) {
            return i >= 0 && i < sizes.length ? sizes[i] : NONE;
        }

        int letterOf(int i, int k) {
            if (i < 0 || i >= sizes.length || sizes[i] > VALUE_MAX || k < 0 || k >= sizes[i]) {
                return 0;
            }
            return letters[i * VALUE_MAX + k];
        }

        /** The letter of a value of one character; 0 for all other values. */
        int nameOf(int i) {
            return sizeOf(i) == 1 ? letterOf(i, 0) : 0;
        }

        void empty(int i) {
            if (i >= 0 && i < sizes.length) {
                sizes[i] = 0;
            }
        }

        boolean append(int i, int c) {
            if (i < 0 || i >= sizes.length || sizes[i] < 0 || sizes[i] >= VALUE_MAX) {
                return false;
            }
            letters[i * VALUE_MAX + sizes[i]] = (char) c;
            sizes[i]++;
            return true;
        }

        boolean appendValue(int i, Values from, int j) {
            int more = from.sizeOf(j);
            boolean fits = true;
            for (int k = 0; k < more && fits; k++) {
                fits = append(i, from.letterOf(j, k));
            }
            return fits;
        }

        void copy(int i, Values from, int j) {
            if (holds(i) && from.holds(j)) {
                sizes[i] = from.sizes[j];
                System.arraycopy(from.letters, j * VALUE_MAX, letters, i * VALUE_MAX, VALUE_MAX);
            }
        }

        void copyStretch(int i, char[] source, int start, int end) {
            int more = end - start;
            if (!holds(i) || start < 0 || more < 0 || end > source.length) {
                return;
            }
            sizes[i] = more;
            if (more <= VALUE_MAX) {
                System.arraycopy(source, start, letters, i * VALUE_MAX, more);
            }
        }

        void dropFirst(int i, int many) {
            if (!holds(i) || many < 0 || many > sizes[i] || sizes[i] > VALUE_MAX) {
                return;
            }
            int from = i * VALUE_MAX;
            System.arraycopy(letters, from + many, letters, from, sizes[i] - many);
            sizes[i] -= many;
        }

        void writeNumber(int i, int number) {
            empty(i);
            // As a long, for the least int has no opposite among the ints.
            long rest = number;
            if (rest < 0) {
                append(i, '-');
                rest = -rest;
            }
            long unit = 1;
            for (int digits = 1; digits < DIGITS_MAX && rest / unit >= 10; digits++) {
                unit *= 10;
            }
            for (int digits = 0; digits < DIGITS_MAX && unit > 0; digits++) {
                append(i, (int) ('0' + rest / unit % 10));
                unit /= 10;
            }
        }

        boolean isNumber(int i) {
            int all = sizeOf(i);
            int first = letterOf(i, 0) == '-' ? 1 : 0;
            boolean number = all > first && all - first <= DIGITS_MAX;
            for (int k = first; k < all && number; k++) {
                number = isDigit(letterOf(i, k));
            }
            return number;
        }

        /** The int that the digits make; asked only where isNumber answers true. */
        int numberOf(int i) {
            int all = Math.min(sizeOf(i), VALUE_MAX);
            boolean below = letterOf(i, 0) == '-';
            int number = 0;
            for (int k = below ? 1 : 0; k < all; k++) {
                number = number * 10 + (letterOf(i, k) - '0');
            }
            return below ? -number : number;
        }

        /** All beginnings of value i that fit a pattern at once: bit k stands for the one of k characters. */
        int fittingBeginnings(int i, Values patterns, int p) {
            int all = Math.min(Math.max(sizeOf(i), 0), VALUE_MAX);
            int every = (1 << (all + 1)) - 1;
            int reached = 1;
            int steps = Math.min(patterns.sizeOf(p), VALUE_MAX);
            for (int k = 0; k < steps; k++) {
                int sign = patterns.letterOf(p, k);
                if (sign == '*') {
                    // The lowest bit that is set, and every bit above it.
                    reached = -(reached & -reached);
                } else {
                    reached = (sign == '?' ? reached : reached & placesOf(i, sign, all)) << 1;
                }
                reached &= every;
            }
            return reached;
        }

        private int placesOf(int i, int c, int all) {
            int places = 0;
            for (int k = 0; k < all; k++) {
                if (letterOf(i, k) == c) {
                    places |= 1 << k;
                }
            }
            return places;
        }
    }

    /**
     * The global variables and those of the calls that run. A call's frame has the number of its script's depth:
     * only one script runs at each depth, so no frame is used by two calls at once.
     */
    private static final class Variables {
        private final Values[] frames = new Values[DEPTH_MAX];
        private final boolean[] linked = new boolean[DEPTH_MAX * NAMES];

        Variables() {
            for (int frame = 0; frame < DEPTH_MAX; frame++) {
                frames[frame] = new Values(NAMES);
                frames[frame].forgetAll();
            }
        }

        void open(int frame) {
            if (frame < 0 || frame >= DEPTH_MAX) {
                return;
            }
            frames[frame].forgetAll();
            for (int name = 0; name < NAMES; name++) {
                linked[frame * NAMES + name] = false;
            }
        }

        void link(int frame, int name) {
            if (isLocal(frame, name)) {
                linked[frame * NAMES + name] = true;
            }
        }

        /** The row in which a name is looked up by a script of this frame. */
        Values meant(int frame, int name) {
            if (isLocal(frame, name) && !linked[frame * NAMES + name]) {
                return frames[frame];
            }
            return frames[GLOBAL];
        }

        private static boolean isLocal(int frame, int name) {
            return frame > GLOBAL && frame < DEPTH_MAX && name >= 0 && name < NAMES;
        }
    }

    /** Procedures are stretches of the text: it can't change before wipe(), which takes them away too. */
    private static final class Procedures {
        private final int[] starts = new int[NAMES];
        private final int[] ends = new int[NAMES];
        private final int[] parameters = new int[NAMES];

        Procedures() {
            Arrays.fill(starts, NONE);
        }

        void forgetAll() {
            Arrays.fill(starts, NONE);
        }

        boolean has(int p) {
            return p >= 0 && p < NAMES && starts[p] != NONE;
        }

        void define(int p, int parameter, int start, int end) {
            if (p >= 0 && p < NAMES) {
                starts[p] = start;
                ends[p] = end;
                parameters[p] = parameter;
            }
        }
    }

    /** How many characters were sent and said, and the latest of them. */
    private static final class Log {
        private final int[] latest = new int[TALK_SHOWN];
        private int count;

        void note(int c) {
            latest[placeOf(count)] = c;
            count++;
        }

        int beforeLatest(int k) {
            if (k < 0 || k >= TALK_SHOWN || k >= count) {
                return 0;
            }
            return latest[placeOf(count - 1 - k)];
        }

        // floorMod, for no count, however far it has gone, may leave the row.
        private static int placeOf(int number) {
            return Math.floorMod(number, TALK_SHOWN);
        }
    }

    private static final class Peer {
        private final int[] states = new int[RULES_MAX];
        private final int[] ons = new int[RULES_MAX];
        private final int[] sayings = new int[RULES_MAX];
        private final int[] nexts = new int[RULES_MAX];
        private int ruleCount;
        private int state;
        private final int[] input = new int[INPUT_MAX];
        private int inputCount;
        private final Values buffer = new Values(1);
        private final Log log = new Log();

        boolean addRule(int forState, int on, int says, int next) {
            if (ruleCount >= RULES_MAX) {
                return false;
            }
            states[ruleCount] = forState;
            ons[ruleCount] = on;
            sayings[ruleCount] = says;
            nexts[ruleCount] = next;
            ruleCount++;
            return true;
        }

        void startAnew() {
            ruleCount = 0;
            state = 0;
            inputCount = 0;
            buffer.empty(0);
        }

        boolean send(Values from, int i) {
            int more = from.sizeOf(i);
            if (inputCount + more > INPUT_MAX) {
                return false;
            }
            for (int k = 0; k < more && inputCount < INPUT_MAX; k++) {
                int c = from.letterOf(i, k);
                input[inputCount] = c;
                inputCount++;
                log.note(c);
            }
            return true;
        }

        void tick() {
            int found = ruleFor(takeInput());
            if (found == NONE) {
                return;
            }
            if (sayings[found] != 0) {
                // What finds no room in the buffer is lost, but it was said.
                buffer.append(0, sayings[found]);
                log.note(sayings[found] + SAID);
            }
            state = nexts[found];
        }

        private int takeInput() {
            if (inputCount == 0) {
                return 0;
            }
            int first = input[0];
            inputCount--;
            System.arraycopy(input, 1, input, 0, inputCount);
            return first;
        }

        private int ruleFor(int on) {
            for (int r = 0; r < ruleCount; r++) {
                if (states[r] == state && ons[r] == on) {
                    return r;
                }
            }
            return NONE;
        }
    }

    /** Works out expressions, with a stack of operands and one of signs that wait for theirs. */
    private static final class Sums {
        private static final char NEGATE = '~';
        private static final int PREFIX_RANK = 6;
        private static final int BRACKET_RANK = 0;

        private final char[] letters;
        private final Variables variables;
        private final int[] operands = new int[TEXT_MAX];
        private final char[] signs = new char[TEXT_MAX];
        private int operandCount;
        private int signCount;
        private int openCount;
        private int at;
        private int end;
        private int frame;
        private boolean operandIsDue;
        private int variableError;
        private boolean byZero;
        private int value;

        Sums(char[] letters, Variables variables) {
            this.letters = letters;
            this.variables = variables;
        }

        /**
         * Answers the number of the error, or FINE: then value is the expression's. The errors of variables and
         * of divisions are only kept until the end, for one that isn't well formed comes before them.
         */
        int workOut(int start, int stop, int ofFrame) {
            begin(start, stop, ofFrame);
            for (int step = 0; step < TEXT_MAX && at < end; step++) {
                char c = letters[at];
                at++;
                boolean taken;
                if (c == ' ') {
                    taken = true;
                } else if (!operandIsDue) {
                    taken = takeSign(c);
                } else if (c == '$') {
                    taken = takeVariable();
                } else {
                    taken = isDigit(c) ? takeNumber(c) : takeSignBefore(c);
                }
                if (!taken) {
                    return BAD_FORM;
                }
            }
            if (operandIsDue || openCount > 0) {
                return BAD_FORM;
            }
            applyDownTo(BRACKET_RANK + 1);
            value = operands[0];
            if (variableError != FINE) {
                return variableError;
            }
            return byZero ? BY_ZERO : FINE;
        }

        private void begin(int start, int stop, int ofFrame) {
            at = Math.max(start, 0);
            end = Math.min(stop, TEXT_MAX);
            frame = ofFrame;
            operandCount = 0;
            signCount = 0;
            openCount = 0;
            operandIsDue = true;
            variableError = FINE;
            byZero = false;
        }

        /** Takes a sign before an operand, or a bracket that opens. */
        private boolean takeSignBefore(char c) {
            switch (c) {
                case '-':
                    pushSign(NEGATE);
                    return true;
                case '!':
                    pushSign(c);
                    return true;
                case '(':
                    pushSign(c);
                    openCount++;
                    return openCount <= OPEN_MAX;
                default:
                    return false;
            }
        }

        /** An eleventh digit is left: it then stands where a sign is due, and is refused there. */
        private boolean takeNumber(char first) {
            int number = first - '0';
            for (int digits = 1; digits < DIGITS_MAX && at < end && isDigit(letters[at]); digits++) {
                number = number * 10 + (letters[at] - '0');
                at++;
            }
            pushOperand(number);
            return true;
        }

        private boolean takeVariable() {
            if (at >= end || !isVariable(letters[at])) {
                return false;
            }
            int name = letters[at] - 'a';
            at++;
            Values row = variables.meant(frame, name);
            boolean number = row.isNumber(name);
            if (!number && variableError == FINE) {
                variableError = row.sizeOf(name) == NONE ? NO_VARIABLE : NO_NUMBER;
            }
            pushOperand(number ? row.numberOf(name) : 0);
            return true;
        }

        /** Takes a sign between two operands, or a bracket that closes. */
        private boolean takeSign(char c) {
            if (c == ')') {
                if (openCount == 0 || signCount == 0) {
                    return false;
                }
                applyDownTo(BRACKET_RANK + 1);
                openCount--;
                signCount--;
                return true;
            }
            int rank = rankOf(c);
            if (rank <= BRACKET_RANK || rank >= PREFIX_RANK) {
                return false;
            }
            applyDownTo(rank);
            pushSign(c);
            operandIsDue = true;
            return true;
        }

        private void pushOperand(int operand) {
            if (operandCount < TEXT_MAX) {
                operands[operandCount] = operand;
                operandCount++;
            }
            operandIsDue = false;
        }

        private void pushSign(char sign) {
            if (signCount < TEXT_MAX) {
                signs[signCount] = sign;
                signCount++;
            }
        }

        /** Applies the signs that wait, from the latest on, as long as they bind as much as this rank or more. */
        private void applyDownTo(int rank) {
            for (int waiting = signCount; waiting > 0; waiting--) {
                char sign = signs[waiting - 1];
                int taken = rankOf(sign) == PREFIX_RANK ? 1 : 2;
                if (rankOf(sign) < rank || operandCount < taken) {
                    return;
                }
                int right = operands[operandCount - 1];
                operandCount -= taken;
                int left = operands[operandCount];
                operands[operandCount] = taken == 1 ? changed(sign, right) : joined(sign, left, right);
                operandCount++;
                signCount = waiting - 1;
            }
        }

        private static int changed(char sign, int operand) {
            if (sign == NEGATE) {
                return -operand;
            }
            return operand == 0 ? 1 : 0;
        }

        private int joined(char sign, int left, int right) {
            switch (sign) {
                case '*':
                    return left * right;
                case '/':
                case '%':
                    if (right == 0) {
                        byZero = true;
                        return 0;
                    }
                    return sign == '/' ? left / right : left % right;
                case '+':
                    return left + right;
                case '-':
                    return left - right;
                case '<':
                    return left < right ? 1 : 0;
                case '>':
                    return left > right ? 1 : 0;
                case '=':
                    return left == right ? 1 : 0;
                case '&':
                    return left != 0 && right != 0 ? 1 : 0;
                default:
                    return left != 0 || right != 0 ? 1 : 0;
            }
        }

        private static int rankOf(char sign) {
            switch (sign) {
                case NEGATE:
                case '!':
                    return PREFIX_RANK;
                case '*':
                case '/':
                case '%':
                    return 5;
                case '+':
                case '-':
                    return 4;
                case '<':
                case '>':
                case '=':
                    return 3;
                case '&':
                    return 2;
                case '|':
                    return 1;
                default:
                    return BRACKET_RANK;
            }
        }
    }

    /** A script that runs: how far it was read, and the words of the command that is read or done. */
    private static final class Level {
        private final Values words = new Values(WORDS_MAX);
        private final boolean[] braced = new boolean[WORDS_MAX];
        private final int[] starts = new int[WORDS_MAX];
        private final int[] ends = new int[WORDS_MAX];
        private int count;
        private int at;
        private int end;
        private int frame;
        private boolean inBrackets;
        private boolean over;

        void begin(int start, int stop, int ofFrame, boolean between) {
            count = 0;
            at = Math.max(start, 0);
            end = Math.min(stop, TEXT_MAX);
            frame = ofFrame;
            inBrackets = between;
            over = false;
        }

        void beginWord() {
            if (count < WORDS_MAX) {
                words.empty(count);
                braced[count] = false;
            }
        }

        void endBraced(char[] letters, int start, int stop) {
            if (count < WORDS_MAX) {
                words.copyStretch(count, letters, start, stop);
                braced[count] = true;
                starts[count] = start;
                ends[count] = stop;
                count++;
            }
        }

        /** Whether a command, and so a bare word too, ends before this character. */
        boolean endsCommand(char c) {
            return c == ';' || c == '\n' || c == ']' && inBrackets;
        }

        boolean isBraced(int i) {
            return i >= 0 && i < count && i < WORDS_MAX && braced[i];
        }

        int startOf(int i) {
            return isBraced(i) ? starts[i] : 0;
        }

        int endOf(int i) {
            return isBraced(i) ? ends[i] : 0;
        }
    }

    /** Reads scripts and does their commands; every answer of a private method that can fail is a code. */
    private static final class Runner {
        private static final String COMMANDS = "sielm?*pgrbcxk><";

        private final Text text;
        private final Peer partner;
        private final Variables variables = new Variables();
        private final Procedures procedures = new Procedures();
        private final Sums sums;
        private final Level[] levels = new Level[DEPTH_MAX];
        // What ended last left its result here; nothing else keeps one.
        private final Values result = new Values(1);
        private int fuelGiven;
        private int fuelLeft;

        Runner(Text text, Peer partner) {
            this.text = text;
            this.partner = partner;
            sums = new Sums(text.letters, variables);
            for (int depth = 0; depth < DEPTH_MAX; depth++) {
                levels[depth] = new Level();
            }
        }

        private int runScript(int start, int end, int frame, int depth, boolean inBrackets) {
            if (depth < 0 || depth >= DEPTH_MAX) {
                return fail(TOO_DEEP);
            }
            Level level = levels[depth];
            level.begin(start, end, frame, inBrackets);
            result.empty(0);
            int code = OK;
            for (int step = 0; step <= TEXT_MAX && code == OK && !level.over; step++) {
                code = readCommand(level, depth);
                if (code == OK && level.count > 0) {
                    code = checkCommand(level);
                    if (code == OK) {
                        code = doCommand(level, depth);
                    }
                }
            }
            return code;
        }

        /** What a procedure, or the whole text, makes of its script's code. */
        private int leave(int code) {
            if (code == BREAK || code == CONTINUE) {
                return fail(LEFT_OUTSIDE);
            }
            return code == RETURN ? OK : code;
        }

        private int fail(int error) {
            result.empty(0);
            result.append(0, 'E');
            result.append(0, '0' + error);
            return ERROR;
        }

        private int endOut() {
            result.empty(0);
            return OUT;
        }

        private boolean takeFuel() {
            if (fuelLeft <= 0) {
                return false;
            }
            fuelLeft--;
            return true;
        }

        private int readCommand(Level level, int depth) {
            level.count = 0;
            for (int step = 0; step <= TEXT_MAX && level.at < level.end; step++) {
                char c = text.letters[level.at];
                if (level.endsCommand(c)) {
                    level.at++;
                    level.over = c == ']';
                    return OK;
                }
                if (c == ' ') {
                    level.at++;
                } else {
                    int code = readWord(level, depth, c);
                    if (code != OK) {
                        return code;
                    }
                }
            }
            level.over = true;
            return level.inBrackets ? fail(BAD_FORM) : OK;
        }

        private int readWord(Level level, int depth, char first) {
            if (level.count >= WORDS_MAX) {
                return fail(BAD_FORM);
            }
            level.beginWord();
            if (first == '{') {
                return readBraced(level);
            }
            boolean quoted = first == '"';
            int code = readPieces(level, depth, quoted);
            if (code != OK) {
                return code;
            }
            level.count++;
            return quoted ? checkBehind(level) : OK;
        }

        private int readBraced(Level level) {
            int open = 0;
            for (int i = level.at; i < level.end; i++) {
                char c = text.letters[i];
                if (c == '{') {
                    open++;
                } else if (c == '}') {
                    open--;
                }
                if (open == 0) {
                    level.endBraced(text.letters, level.at + 1, i);
                    level.at = i + 1;
                    return checkBehind(level);
                }
            }
            return fail(BAD_FORM);
        }

        private int checkBehind(Level level) {
            if (level.at >= level.end) {
                return OK;
            }
            char c = text.letters[level.at];
            return c == ' ' || level.endsCommand(c) ? OK : fail(BAD_FORM);
        }

        private int readPieces(Level level, int depth, boolean quoted) {
            if (quoted) {
                level.at++;
            }
            for (int step = 0; step <= TEXT_MAX && level.at < level.end; step++) {
                char c = text.letters[level.at];
                if (quoted && c == '"') {
                    level.at++;
                    return OK;
                }
                if (!quoted && (c == ' ' || level.endsCommand(c))) {
                    return OK;
                }
                level.at++;
                int code = readPiece(level, depth, c);
                if (code != OK) {
                    return code;
                }
            }
            return quoted ? fail(BAD_FORM) : OK;
        }

        private int readPiece(Level level, int depth, char c) {
            int next = level.at < level.end ? text.letters[level.at] : 0;
            if (c == '[') {
                int code = runScript(level.at, level.end, level.frame, depth + 1, true);
                if (code != OK || depth + 1 >= DEPTH_MAX) {
                    return code;
                }
                // Where a script between brackets ends is known only when it was run.
                level.at = levels[depth + 1].at;
                return level.words.appendValue(level.count, result, 0) ? OK : fail(NO_ROOM);
            }
            if (c == '$' && isVariable(next)) {
                level.at++;
                int name = next - 'a';
                Values row = variables.meant(level.frame, name);
                if (row.sizeOf(name) == NONE) {
                    return fail(NO_VARIABLE);
                }
                return level.words.appendValue(level.count, row, name) ? OK : fail(NO_ROOM);
            }
            if (c == '\\') {
                if (level.at >= level.end) {
                    return fail(BAD_FORM);
                }
                level.at++;
                return level.words.append(level.count, next) ? OK : fail(NO_ROOM);
            }
            return level.words.append(level.count, c) ? OK : fail(NO_ROOM);
        }

        /** Takes the command's fuel and looks at its words, in the order of the document. */
        private int checkCommand(Level level) {
            if (!takeFuel()) {
                return endOut();
            }
            int name = level.words.nameOf(0);
            if (!isCommand(name)) {
                return fail(NO_COMMAND);
            }
            String form = formOf(name, level.count);
            if (level.count != form.length() + 1) {
                return fail(BAD_WORDS);
            }
            for (int i = 1; i < level.count; i++) {
                char kind = form.charAt(i - 1);
                if ((kind == 'w' || kind == 'c') && !level.isBraced(i)) {
                    return fail(BAD_WORDS);
                }
            }
            for (int i = 1; i < level.count; i++) {
                int error = errorOf(level.words, i, form.charAt(i - 1));
                if (error != FINE) {
                    return fail(error);
                }
            }
            return OK;
        }

        private boolean isCommand(int name) {
            if (isProcedure(name)) {
                return procedures.has(name - 'A');
            }
            return name != 0 && COMMANDS.indexOf((char) name) >= 0;
        }

        /** The kinds of the words behind a name, as the document writes them; N is a procedure's name. */
        private static String formOf(int name, int words) {
            switch (name) {
                case 's':
                    return words == 2 ? "v" : "vx";
                case 'i':
                    return words == 2 ? "v" : "vn";
                case 'e':
                    return "c";
                case 'm':
                    return "xx";
                case '?':
                    return words == 3 ? "cw" : "cww";
                case '*':
                    return "cw";
                case 'p':
                    return "Nvw";
                case 'g':
                    return "v";
                case 'b':
                case 'c':
                    return "";
                case 'k':
                    return words == 2 ? "w" : "wv";
                case '<':
                    return words == 4 ? "nxw" : words == 6 ? "nxwxw" : "nxwxwxw";
                default:
                    return "x";
            }
        }

        private static int errorOf(Values words, int i, char kind) {
            boolean tooLong = words.sizeOf(i) > VALUE_MAX;
            switch (kind) {
                case 'v':
                    return isVariable(words.nameOf(i)) ? FINE : NO_VARIABLE;
                case 'n':
                    return words.isNumber(i) ? FINE : NO_NUMBER;
                case 'x':
                    return tooLong ? NO_ROOM : FINE;
                case 'N':
                    if (tooLong) {
                        return NO_ROOM;
                    }
                    return isProcedure(words.nameOf(i)) ? FINE : NO_VARIABLE;
                default:
                    return FINE;
            }
        }

        private int doCommand(Level level, int depth) {
            Values words = level.words;
            int name = words.nameOf(0);
            result.empty(0);
            switch (name) {
                case 's':
                    return setOrShow(level);
                case 'i':
                    return grow(level);
                case 'e':
                    return showSum(level);
                case 'l':
                    result.writeNumber(0, words.sizeOf(1));
                    return OK;
                case 'm':
                    result.writeNumber(0, words.fittingBeginnings(2, words, 1) >> words.sizeOf(2) & 1);
                    return OK;
                case '?':
                    return choose(level, depth);
                case '*':
                    return repeat(level, depth);
                case 'p':
                    procedures.define(words.nameOf(1) - 'A', words.nameOf(2) - 'a', level.startOf(3), level.endOf(3));
                    return OK;
                case 'g':
                    variables.link(level.frame, words.nameOf(1) - 'a');
                    return OK;
                case 'r':
                    result.copy(0, words, 1);
                    return RETURN;
                case 'b':
                    return BREAK;
                case 'c':
                    return CONTINUE;
                case 'x':
                    result.copy(0, words, 1);
                    return ERROR;
                case 'k':
                    return catchCode(level, depth);
                case '>':
                    return partner.send(words, 1) ? OK : fail(NO_ROOM);
                case '<':
                    return waitForPeer(level, depth);
                default:
                    return callProcedure(level, depth, name - 'A');
            }
        }

        private int setOrShow(Level level) {
            int name = level.words.nameOf(1) - 'a';
            Values row = variables.meant(level.frame, name);
            if (level.count > 2) {
                row.copy(name, level.words, 2);
            }
            if (row.sizeOf(name) == NONE) {
                return fail(NO_VARIABLE);
            }
            result.copy(0, row, name);
            return OK;
        }

        private int grow(Level level) {
            int name = level.words.nameOf(1) - 'a';
            int more = level.count > 2 ? level.words.numberOf(2) : 1;
            Values row = variables.meant(level.frame, name);
            if (row.sizeOf(name) == NONE) {
                return fail(NO_VARIABLE);
            }
            if (!row.isNumber(name)) {
                return fail(NO_NUMBER);
            }
            row.writeNumber(name, row.numberOf(name) + more);
            result.copy(0, row, name);
            return OK;
        }

        private int showSum(Level level) {
            int error = sums.workOut(level.startOf(1), level.endOf(1), level.frame);
            if (error != FINE) {
                return fail(error);
            }
            result.writeNumber(0, sums.value);
            return OK;
        }

        private int runWord(Level level, int i, int depth) {
            return runScript(level.startOf(i), level.endOf(i), level.frame, depth + 1, false);
        }

        private int choose(Level level, int depth) {
            int error = sums.workOut(level.startOf(1), level.endOf(1), level.frame);
            if (error != FINE) {
                return fail(error);
            }
            int chosen = sums.value != 0 ? 2 : 3;
            return chosen < level.count ? runWord(level, chosen, depth) : OK;
        }

        private int repeat(Level level, int depth) {
            // Each turn takes fuel, so that there can't be more turns than fuel.
            for (int turn = 0; turn <= FUEL_MAX; turn++) {
                int error = sums.workOut(level.startOf(1), level.endOf(1), level.frame);
                if (error != FINE) {
                    return fail(error);
                }
                if (sums.value == 0) {
                    result.empty(0);
                    return OK;
                }
                if (!takeFuel()) {
                    return endOut();
                }
                int code = runWord(level, 2, depth);
                if (code == BREAK) {
                    result.empty(0);
                    return OK;
                }
                if (code != OK && code != CONTINUE) {
                    return code;
                }
            }
            return endOut();
        }

        private int catchCode(Level level, int depth) {
            int code = runWord(level, 1, depth);
            if (code == OUT) {
                return OUT;
            }
            if (level.count > 2) {
                int name = level.words.nameOf(2) - 'a';
                variables.meant(level.frame, name).copy(name, result, 0);
            }
            result.writeNumber(0, code);
            return OK;
        }

        private int callProcedure(Level level, int depth, int p) {
            if (!procedures.has(p)) {
                return fail(NO_COMMAND);
            }
            int frame = depth + 1;
            int parameter = procedures.parameters[p];
            variables.open(frame);
            if (frame < DEPTH_MAX) {
                variables.meant(frame, parameter).copy(parameter, level.words, 1);
            }
            return leave(runScript(procedures.starts[p], procedures.ends[p], frame, frame, false));
        }

        private int waitForPeer(Level level, int depth) {
            int most = level.words.numberOf(1);
            // Each tick takes fuel, so that there can't be more ticks than fuel.
            for (int ticks = 0; ticks <= FUEL_MAX; ticks++) {
                int fired = takeFitting(level);
                if (fired != NONE) {
                    return runWord(level, fired + 1, depth);
                }
                if (ticks >= most) {
                    result.append(0, 'T');
                    return OK;
                }
                if (!takeFuel()) {
                    return endOut();
                }
                partner.tick();
            }
            return endOut();
        }

        /** The word of the pattern that fires, whose beginning is taken from the buffer; NONE if there is none. */
        private int takeFitting(Level level) {
            int fired = NONE;
            int shortest = VALUE_MAX + 1;
            for (int i = 2; i < level.count; i += 2) {
                int fitting = partner.buffer.fittingBeginnings(0, level.words, i);
                for (int size = 0; size < shortest; size++) {
                    if ((fitting >> size & 1) == 1) {
                        fired = i;
                        shortest = size;
                    }
                }
            }
            if (fired != NONE) {
                partner.buffer.dropFirst(0, shortest);
            }
            return fired;
        }
    }
}
