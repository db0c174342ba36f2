/**
 * An executor of small cases: six programs of actions, each run on the spot or
 * as by a thread of its own, and the outcome of its latest RUN.
 *
 * No thread, monitor or exception of Java's is used: LANGUAGE.md (6, 7, 13)
 * leaves none. A RUN is a model of them. RUNS share nothing but THE COUNTER,
 * which they only add to, so RUNS one after another end as RUNS at the same
 * time would.
 */
public final class CaseExecutor {
    public static final int DONE = 0;
    public static final int REFUSED = -1;
    public static final int FULL = -2;
    public static final int NOT_RUN = -3;

    private static final int PROGRAMS = 6;
    private static final int ALL_PROGRAMS = 63;
    private static final int MOST_ACTIONS = 14;
    private static final int LAST_OP = 21;
    private static final int LAST_ARGUMENT = 255;

    private static final int COUNT_RUNS = 0;
    private static final int COUNT_THREADS = 1;
    private static final int COUNT_TROUBLED = 2;
    private static final int COUNT_ACTIONS = 3;

    private static final int NAME_ON_THE_SPOT = 10;
    private static final int NAME_OF_THREAD = 20;

    private final Program[] programs;
    private final Run[] latest;
    private long theCounter;
    private int runs;
    private int threadRuns;
    private int troubledRuns;

    public CaseExecutor() {
        programs = new Program[PROGRAMS];
        latest = new Run[PROGRAMS];
        for (int i = 0; i < PROGRAMS; i++) {
            programs[i] = new Program();
            latest[i] = new Run(programs[i]);
        }
    }

    public int add(int program, int op, int argument) {
        if (!isProgram(program) || !isWithin(op, LAST_OP) || !isWithin(argument, LAST_ARGUMENT)) {
            return REFUSED;
        }
        int number = programs[program].append(op, argument);
        if (number != FULL) {
            latest[program].forget();
        }
        return number;
    }

    public int clear(int program) {
        if (!isProgram(program)) {
            return REFUSED;
        }
        latest[program].forget();
        programs[program].empty();
        return DONE;
    }

    public int run(int program, boolean thread) {
        if (!isProgram(program)) {
            return REFUSED;
        }
        return perform(program, thread);
    }

    public int runAll(int mask) {
        if (!isWithin(mask, ALL_PROGRAMS)) {
            return REFUSED;
        }
        int troubled = 0;
        for (int i = 0; i < PROGRAMS; i++) {
            if ((mask >> i & 1) == 1 && perform(i, true) != DONE) {
                troubled++;
            }
        }
        return troubled;
    }

    public int told(int program, int what) {
        if (!isProgram(program) || !isWithin(what, Run.LAST_TOLD)) {
            return REFUSED;
        }
        return latest[program].isKnown() ? latest[program].tell(what) : NOT_RUN;
    }

    public int cell(int program, int i) {
        if (!isProgram(program) || !Run.isCell(i)) {
            return REFUSED;
        }
        return latest[program].isKnown() ? latest[program].cellAtEnd(i) : 0;
    }

    public long counter() {
        return theCounter;
    }

    public int count(int what) {
        switch (what) {
            case COUNT_RUNS:
                return runs;
            case COUNT_THREADS:
                return threadRuns;
            case COUNT_TROUBLED:
                return troubledRuns;
            default:
                return isProgram(what - COUNT_ACTIONS) ? programs[what - COUNT_ACTIONS].size() : REFUSED;
        }
    }

    private int perform(int program, boolean thread) {
        Run run = latest[program];
        run.perform(thread ? NAME_OF_THREAD + program : NAME_ON_THE_SPOT);
        runs++;
        if (thread) {
            threadRuns++;
        }
        if (run.outcome() != DONE) {
            troubledRuns++;
        }
        theCounter += run.counted();
        return run.outcome();
    }

    private static boolean isProgram(int program) {
        return isWithin(program, PROGRAMS - 1);
    }

    private static boolean isWithin(int number, int last) {
        return number >= 0 && number <= last;
    }

    /** The actions of one program. */
    private static final class Program {
        private final int[] ops = new int[MOST_ACTIONS];
        private final int[] arguments = new int[MOST_ACTIONS];
        private int size;

        int size() {
            return size;
        }

        int append(int op, int argument) {
            if (size >= MOST_ACTIONS) {
                return FULL;
            }
            ops[size] = op;
            arguments[size] = argument;
            size++;
            return size - 1;
        }

        void empty() {
            size = 0;
        }

        int op(int action) {
            return ops[action];
        }

        /** V of the document. */
        int value(int action) {
            return arguments[action] - 100;
        }

        /** N of the document. */
        int low(int action) {
            return arguments[action] % 16;
        }

        /** K of the document. */
        int high(int action) {
            return arguments[action] / 16;
        }

        /** How many actions the block of an action has that stands in a block ending before end. */
        int blockLength(int action, int end) {
            if (ops[action] < Run.CATCH || ops[action] > Run.REPEAT) {
                return 0;
            }
            return Math.min(low(action), end - action - 1);
        }
    }

    /** The latest RUN of one program: made once, and used again for each RUN. */
    private static final class Run {
        static final int ADD = 0;
        static final int MULTIPLY = 1;
        static final int DIVIDE = 2;
        static final int REMAINDER = 3;
        static final int LOAD = 4;
        static final int KEEP = 5;
        static final int BREAK = 6;
        static final int THROW = 7;
        static final int INTERRUPT = 8;
        static final int LOOK = 9;
        static final int CATCH = 10;
        static final int FINALLY = 11;
        static final int DROP = 12;
        static final int HOLD = 13;
        static final int REPEAT = 14;
        static final int NOTIFY = 15;
        static final int WAIT = 16;
        static final int SLEEP = 17;
        static final int HELD = 18;
        static final int COUNT = 19;
        static final int STOP = 20;
        static final int NAME = 21;

        static final int NONE = -1;
        static final int ARITHMETIC = 0;
        static final int INDEX = 1;
        static final int NEGATIVE = 5;
        static final int MONITOR = 6;
        static final int INTERRUPTED = 7;
        static final int STATE = 8;
        static final int ARGUMENT = 9;
        static final int OWN = 10;

        static final int TAKES_UNCHECKED = 11;
        static final int TAKES_INDEX_ARGUMENT = 12;
        static final int TAKES_INTERRUPTED_OWN = 13;
        static final int TAKES_AND_LETS_GO_ON = 14;
        static final int TAKES_ALL = 15;
        static final int NUMBER_LET_GO_ON = 14;

        static final int WENT_ON = 0;
        static final int STOPPED = 1;
        static final int TROUBLED = 2;

        static final int CELLS = 8;
        static final int MONITORS = 2;
        static final int MOST_STEPS = 400;
        static final int TROUBLE_TOLD = 100;
        static final int CAUGHT = 1000;
        static final int LAST_TOLD = 7;

        private final Program program;
        private final int[] cells = new int[CELLS];
        private final int[] holds = new int[MONITORS];
        private boolean known;
        private int name;
        private int accumulator;
        private int steps;
        private int finals;
        private int catches;
        private boolean marked;
        private long counted;
        private int trouble;
        private int troubleAction;
        private int ownNumber;

        Run(Program itsProgram) {
            program = itsProgram;
        }

        static boolean isCell(int i) {
            return isWithin(i, CELLS - 1);
        }

        boolean isKnown() {
            return known;
        }

        void forget() {
            known = false;
        }

        int outcome() {
            return trouble == NONE ? DONE : TROUBLE_TOLD + trouble;
        }

        long counted() {
            return counted;
        }

        int cellAtEnd(int i) {
            return cells[i];
        }

        int tell(int what) {
            switch (what) {
                case 0:
                    return outcome();
                case 1:
                    return accumulator;
                case 2:
                    return steps;
                case 3:
                    return finals;
                case 4:
                    return catches;
                case 5:
                    return troubleAction;
                case 6:
                    return ownNumber;
                default:
                    return marked ? 1 : 0;
            }
        }

        void perform(int newName) {
            begin(newName);
            doActions(0, program.size(), 0);
            known = true;
        }

        private void begin(int newName) {
            name = newName;
            accumulator = 0;
            steps = 0;
            finals = 0;
            catches = 0;
            marked = false;
            counted = 0L;
            for (int i = 0; i < CELLS; i++) {
                cells[i] = 0;
            }
            for (int i = 0; i < MONITORS; i++) {
                holds[i] = 0;
            }
            forgetTrouble();
        }

        private int become(int value) {
            accumulator = value;
            return WENT_ON;
        }

        private int comesUp(int action, int itsTrouble) {
            trouble = itsTrouble;
            troubleAction = action;
            ownNumber = -1;
            return TROUBLED;
        }

        private int ownComesUp(int action, int number) {
            trouble = OWN;
            troubleAction = action;
            ownNumber = number;
            return TROUBLED;
        }

        private void forgetTrouble() {
            trouble = NONE;
            troubleAction = -1;
            ownNumber = -1;
        }

        /** Does the actions from .. end - 1; answers how that ended. */
        private int doActions(int from, int end, int depth) {
            // a block begins behind its action, so no program of 14 gets deeper
            if (depth > MOST_ACTIONS) {
                return STOPPED;
            }
            for (int i = from; i < end; i++) {
                if (steps >= MOST_STEPS) {
                    return STOPPED;
                }
                steps++;
                int length = program.blockLength(i, end);
                int ending = doAction(i, i + 1 + length, depth);
                if (ending != WENT_ON) {
                    return ending;
                }
                // the action has done its block itself
                i += length;
            }
            return WENT_ON;
        }

        /** Does the action, whose block, if it has one, ends before end; answers how that ended. */
        private int doAction(int action, int end, int depth) {
            int value = program.value(action);
            switch (program.op(action)) {
                case ADD:
                    return become(accumulator + value);
                case MULTIPLY:
                    return become(accumulator * value);
                case DIVIDE:
                    return value == 0 ? comesUp(action, ARITHMETIC) : become(accumulator / value);
                case REMAINDER:
                    return value == 0 ? comesUp(action, ARITHMETIC) : become(accumulator % value);
                case LOAD:
                    return isCell(value) ? become(cells[value]) : comesUp(action, INDEX);
                case KEEP:
                    return doKeep(action);
                case BREAK:
                    return doBreak(action);
                case THROW:
                    return doThrow(action);
                case INTERRUPT:
                    return doInterrupt();
                case LOOK:
                    return doLook();
                case CATCH:
                    return doCatch(action, end, depth);
                case FINALLY:
                    return doFinally(action, end, depth);
                case DROP:
                    return doDrop(action, end, depth);
                case HOLD:
                    return doHold(action, end, depth);
                case REPEAT:
                    return doRepeat(action, end, depth);
                case NOTIFY:
                    return isHeld(action) ? WENT_ON : comesUp(action, MONITOR);
                case WAIT:
                    return isHeld(action) ? doSleep(action) : comesUp(action, MONITOR);
                case SLEEP:
                    return doSleep(action);
                case HELD:
                    return become(isHeld(action) ? 1 : 0);
                case COUNT:
                    return doCount(action);
                case STOP:
                    return STOPPED;
                case NAME:
                    return become(name);
                default:
                    return WENT_ON;
            }
        }

        private int doCatch(int action, int end, int depth) {
            int ending = doActions(action + 1, end, depth + 1);
            int taker = program.high(action);
            if (ending != TROUBLED || !takes(taker, trouble)) {
                return ending;
            }
            catches++;
            accumulator = CAUGHT + 16 * trouble + (trouble == OWN ? ownNumber : 0);
            forgetTrouble();
            return taker == TAKES_AND_LETS_GO_ON ? ownComesUp(action, NUMBER_LET_GO_ON) : WENT_ON;
        }

        private static boolean takes(int taker, int itsTrouble) {
            switch (taker) {
                case TAKES_UNCHECKED:
                case TAKES_AND_LETS_GO_ON:
                    return itsTrouble != INTERRUPTED && itsTrouble != OWN;
                case TAKES_INDEX_ARGUMENT:
                    return itsTrouble == INDEX || itsTrouble == ARGUMENT;
                case TAKES_INTERRUPTED_OWN:
                    return itsTrouble == INTERRUPTED || itsTrouble == OWN;
                case TAKES_ALL:
                    return true;
                default:
                    return itsTrouble == taker;
            }
        }

        private int doFinally(int action, int end, int depth) {
            int ending = doActions(action + 1, end, depth + 1);
            finals++;
            accumulator = -accumulator;
            return ending;
        }

        private int doDrop(int action, int end, int depth) {
            doActions(action + 1, end, depth + 1);
            forgetTrouble();
            finals++;
            return WENT_ON;
        }

        private int doHold(int action, int end, int depth) {
            int monitor = program.high(action) % MONITORS;
            holds[monitor]++;
            int ending = doActions(action + 1, end, depth + 1);
            holds[monitor]--;
            return ending;
        }

        private int doRepeat(int action, int end, int depth) {
            int times = program.high(action);
            for (int i = 0; i < times; i++) {
                int ending = doActions(action + 1, end, depth + 1);
                if (ending != WENT_ON) {
                    return ending;
                }
            }
            return WENT_ON;
        }

        private int doKeep(int action) {
            int i = program.value(action);
            if (!isCell(i)) {
                return comesUp(action, INDEX);
            }
            cells[i] = accumulator;
            return WENT_ON;
        }

        private int doBreak(int action) {
            // ARITHMETIC .. NEGATIVE are the troubles 0 .. 5, which K names
            if (program.high(action) <= NEGATIVE) {
                return comesUp(action, program.high(action));
            }
            return become(program.low(action));
        }

        private int doThrow(int action) {
            switch (program.high(action)) {
                case INTERRUPTED:
                case STATE:
                case ARGUMENT:
                    return comesUp(action, program.high(action));
                case OWN:
                    return ownComesUp(action, program.low(action));
                default:
                    return WENT_ON;
            }
        }

        private int doInterrupt() {
            marked = true;
            return WENT_ON;
        }

        private int doLook() {
            accumulator = marked ? 1 : 0;
            marked = false;
            return WENT_ON;
        }

        private int doCount(int action) {
            counted += program.value(action);
            return WENT_ON;
        }

        private int doSleep(int action) {
            if (!marked) {
                return WENT_ON;
            }
            marked = false;
            return comesUp(action, INTERRUPTED);
        }

        private boolean isHeld(int action) {
            return holds[program.high(action) % MONITORS] > 0;
        }
    }
}
