/** The words in which the tests write programs; a test class has them by extending this. */
abstract class Cases {
    static final int ADD = 0;
    static final int MULTIPLY = 1;
    static final int DIVIDE = 2;
    static final int REMAINDER = 3;
    static final int LOAD = 4;
    static final int KEEP = 5;
    static final int BREAK = 6;
    static final int THROW = 7;
    static final int INTERRUPT = 8;
    static final int LOOK = 9;
    static final int CATCH = 10;
    static final int FINALLY = 11;
    static final int DROP = 12;
    static final int HOLD = 13;
    static final int REPEAT = 14;
    static final int NOTIFY = 15;
    static final int WAIT = 16;
    static final int SLEEP = 17;
    static final int HELD = 18;
    static final int COUNT = 19;
    static final int STOP = 20;
    static final int NAME = 21;

    static final int PROGRAMS = 6;
    static final int MOST_ACTIONS = 14;
    static final int LEAST = Integer.MIN_VALUE;
    static final int MOST = Integer.MAX_VALUE;

    /** The ARGUMENT whose V is this. */
    static int v(int value) {
        return value + 100;
    }

    /** The ARGUMENT with this K and N. */
    static int kn(int k, int n) {
        return 16 * k + n;
    }

    /** OP, ARGUMENT, OP, ARGUMENT ... */
    static int[] actions(int... opsAndArguments) {
        return opsAndArguments;
    }

    /** The parts as one program. */
    static int[] joined(int[]... parts) {
        int length = 0;
        for (int[] part : parts) {
            length += part.length;
        }
        int[] all = new int[length];
        int at = 0;
        for (int[] part : parts) {
            System.arraycopy(part, 0, all, at, part.length);
            at += part.length;
        }
        return all;
    }

    /** Five actions, after which the ACCUMULATOR is 2 to the 31st: as an int, the least there is. */
    static int[] least() {
        return actions(ADD, v(2), REPEAT, kn(15, 1), MULTIPLY, v(2), REPEAT, kn(15, 1), MULTIPLY, v(2));
    }

    /** One action in which the TROUBLE comes up; an OWN has the number 9. */
    static int[] trouble(int number) {
        if (number <= 5) {
            return actions(BREAK, kn(number, 1));
        }
        return number == 6 ? actions(NOTIFY, 0) : actions(THROW, kn(number, 9));
    }

    static CaseExecutor with(int program, int... opsAndArguments) {
        CaseExecutor x = new CaseExecutor();
        put(x, program, opsAndArguments);
        return x;
    }

    static void put(CaseExecutor x, int program, int... opsAndArguments) {
        for (int i = 0; i < opsAndArguments.length; i += 2) {
            x.add(program, opsAndArguments[i], opsAndArguments[i + 1]);
        }
    }

    /** An object of which every state call has something to tell, in few calls. */
    static CaseExecutor used() {
        CaseExecutor x = new CaseExecutor();
        for (int p = 0; p < PROGRAMS; p++) {
            put(x, p, ADD, v(p + 1), KEEP, v(p), FINALLY, 0, COUNT, v(p), INTERRUPT, 0, THROW, kn(10, p));
        }
        x.run(5, false);
        x.runAll(31);
        return x;
    }

    /** All that the calls tell of an object without changing it (106 calls). */
    static long[] state(CaseExecutor x) {
        long[] answers = new long[2 * 8 * PROGRAMS + 9 + 1];
        int at = 0;
        for (int p = 0; p < PROGRAMS; p++) {
            for (int i = 0; i < 8; i++) {
                answers[at++] = x.told(p, i);
                answers[at++] = x.cell(p, i);
            }
        }
        for (int what = 0; what < 9; what++) {
            answers[at++] = x.count(what);
        }
        answers[at] = x.counter();
        return answers;
    }

    /** Numbers outside first .. last: its neighbours, the extremes, and some that a mask or a wrap lets in. */
    static int[] outside(int first, int last) {
        return new int[] {first - 1, last + 1, LEAST, MOST, first - 256, last + 65536, LEAST + 1, LEAST + first + 2};
    }
}
