/** Each promise by itself: ordinary inputs, the edges that the document names, wrong inputs. */
public final class PromisesTest {
    private static final Checks checks = new Checks();
    private static final int[] OUT_OF_RANGE_PROGRAMS = {-1, 6, 7, Integer.MIN_VALUE, Integer.MAX_VALUE};

    public static void main(String[] args) {
        newObject();
        addAnswersNumbers();
        addRefuses();
        addFull();
        addForgets();
        clearEmpties();
        runRefuses();
        runAnswers();
        runAllAnswers();
        toldRefuses();
        toldLatest();
        cellAnswers();
        counterAdds();
        countAnswers();
        arithmetic();
        cellsOfARun();
        breaks();
        throwsOfEachKind();
        takers();
        letsGoOn();
        marks();
        blocks();
        finallyAndDrop();
        monitors();
        repeats();
        stepLimit();
        names();
        objectsAreApart();
        checks.end("PromisesTest");
    }

    /** A new executor whose program has these actions: op, argument, op, argument ... */
    private static CaseExecutor with(int program, int... actions) {
        CaseExecutor x = new CaseExecutor();
        put(x, program, actions);
        return x;
    }

    private static void put(CaseExecutor x, int program, int... actions) {
        for (int i = 0; i < actions.length; i += 2) {
            checks.due("add", x.add(program, actions[i], actions[i + 1]), i / 2);
        }
    }

    /** Runs program 0 of these actions both ways; dues are what told(0, 0 ..) must answer. */
    private static CaseExecutor told(String name, int[] actions, int... dues) {
        CaseExecutor x = with(0, actions);
        for (int way = 0; way < 2; way++) {
            checks.due(name + ", run", x.run(0, way == 1), dues[0]);
            for (int what = 0; what < dues.length; what++) {
                checks.due(name + ", told " + what, x.told(0, what), dues[what]);
            }
        }
        return x;
    }

    private static int[] actions(int... actions) {
        return actions;
    }

    private static int kn(int k, int n) {
        return 16 * k + n;
    }

    private static void newObject() {
        CaseExecutor x = new CaseExecutor();
        for (int p = 0; p < 6; p++) {
            checks.due("new, actions", x.count(3 + p), 0);
            for (int i = 0; i < 8; i++) {
                checks.due("new, told", x.told(p, i), CaseExecutor.NOT_RUN);
                checks.due("new, cell", x.cell(p, i), 0);
            }
        }
        for (int what = 0; what < 3; what++) {
            checks.due("new, count", x.count(what), 0);
        }
        checks.due("new, counter", x.counter(), 0);
        checks.due("DONE", CaseExecutor.DONE, 0);
        checks.due("REFUSED", CaseExecutor.REFUSED, -1);
        checks.due("FULL", CaseExecutor.FULL, -2);
        checks.due("NOT_RUN", CaseExecutor.NOT_RUN, -3);
    }

    private static void addAnswersNumbers() {
        CaseExecutor x = new CaseExecutor();
        for (int p = 0; p < 6; p++) {
            checks.due("add 0", x.add(p, 0, 0), 0);
            checks.due("add 1", x.add(p, 21, 255), 1);
            checks.due("add 2", x.add(p, 10, 128), 2);
            checks.due("added", x.count(3 + p), 3);
        }
    }

    private static void addRefuses() {
        CaseExecutor x = new CaseExecutor();
        for (int p : OUT_OF_RANGE_PROGRAMS) {
            checks.due("add to " + p, x.add(p, 0, 100), CaseExecutor.REFUSED);
        }
        for (int op : new int[] {-1, 22, Integer.MIN_VALUE, Integer.MAX_VALUE}) {
            checks.due("add op " + op, x.add(0, op, 100), CaseExecutor.REFUSED);
        }
        for (int argument : new int[] {-1, 256, Integer.MIN_VALUE, Integer.MAX_VALUE}) {
            checks.due("add argument " + argument, x.add(0, 0, argument), CaseExecutor.REFUSED);
        }
        checks.due("nothing added", x.count(3), 0);
        x.run(0, false);
        x.add(0, 22, 0);
        checks.due("refused: told stays", x.told(0, 0), 0);
    }

    private static void addFull() {
        CaseExecutor x = new CaseExecutor();
        for (int i = 0; i < 14; i++) {
            checks.due("add", x.add(5, 0, 101), i);
        }
        checks.due("add 15th", x.add(5, 0, 101), CaseExecutor.FULL);
        checks.due("full, but out of range", x.add(5, 0, 256), CaseExecutor.REFUSED);
        checks.due("full count", x.count(8), 14);
        checks.due("others have room", x.add(4, 0, 101), 0);
        x.run(5, true);
        x.add(5, 0, 101);
        checks.due("full: told stays", x.told(5, 1), 14);
        x.clear(5);
        checks.due("add after clear", x.add(5, 0, 101), 0);
    }

    private static void addForgets() {
        CaseExecutor x = with(1, 0, 105, 5, 100);
        put(x, 2, 0, 106, 5, 100);
        x.runAll(6);
        checks.due("cell before", x.cell(1, 0), 5);
        x.add(1, 0, 101);
        for (int what = 0; what < 8; what++) {
            checks.due("told after add", x.told(1, what), CaseExecutor.NOT_RUN);
        }
        checks.due("cell after add", x.cell(1, 0), 0);
        checks.due("another's stays", x.told(2, 1), 6);
        checks.due("another's cell stays", x.cell(2, 0), 6);
        x.run(1, false);
        checks.due("told again", x.told(1, 1), 6);
    }

    private static void clearEmpties() {
        CaseExecutor x = with(3, 0, 105, 5, 107, 2, 100);
        x.run(3, true);
        checks.due("clear", x.clear(3), CaseExecutor.DONE);
        checks.due("cleared", x.count(6), 0);
        checks.due("cleared, told", x.told(3, 0), CaseExecutor.NOT_RUN);
        checks.due("cleared, cell", x.cell(3, 7), 0);
        checks.due("runs stay counted", x.count(2), 1);
        checks.due("run empty", x.run(3, false), CaseExecutor.DONE);
        checks.due("steps of empty", x.told(3, 2), 0);
        for (int p : OUT_OF_RANGE_PROGRAMS) {
            checks.due("clear " + p, x.clear(p), CaseExecutor.REFUSED);
        }
    }

    private static void runRefuses() {
        CaseExecutor x = new CaseExecutor();
        for (int p : OUT_OF_RANGE_PROGRAMS) {
            checks.due("run " + p, x.run(p, false), CaseExecutor.REFUSED);
            checks.due("run " + p, x.run(p, true), CaseExecutor.REFUSED);
        }
        checks.due("refused runs", x.count(0), 0);
    }

    private static void runAnswers() {
        told("empty", actions(), 0, 0, 0, 0, 0, -1, -1, 0);
        told("one", actions(0, 103), 0, 3, 1, 0, 0, -1, -1, 0);
        told("two of three", actions(0, 103, 3, 100, 0, 101), 100, 3, 2, 0, 0, 1, -1, 0);
        CaseExecutor x = told("anew each time", actions(8, 0, 0, 107, 5, 100, 7, kn(10, 3)), 110, 7, 4, 0, 0, 3, 3, 1);
        checks.due("cell", x.cell(0, 0), 7);
        x.clear(0);
        checks.due("after trouble", x.run(0, true), 0);
        checks.due("no mark left", x.told(0, 7), 0);
        checks.due("no cell left", x.cell(0, 0), 0);
        checks.due("no number left", x.told(0, 6), -1);
    }

    private static void runAllAnswers() {
        CaseExecutor x = with(0, 19, 101);
        put(x, 1, 19, 110, 2, 100);
        put(x, 5, 19, 200, 7, kn(9, 0));
        checks.due("runAll(0)", x.runAll(0), 0);
        checks.due("no runs", x.count(0), 0);
        checks.due("runAll(63)", x.runAll(63), 2);
        checks.due("runs", x.count(0), 6);
        checks.due("threads", x.count(1), 6);
        checks.due("troubled", x.count(2), 2);
        checks.due("counter", x.counter(), 111);
        checks.due("told 0", x.told(0, 0), 0);
        checks.due("told 1", x.told(1, 0), 100);
        checks.due("told 4", x.told(4, 0), 0);
        checks.due("told 5", x.told(5, 0), 109);
        checks.due("runAll(33)", x.runAll(33), 1);
        checks.due("runAll(2)", x.runAll(2), 1);
        checks.due("counter", x.counter(), 222);
        for (int mask : new int[] {-1, 64, 127, Integer.MIN_VALUE, Integer.MAX_VALUE}) {
            checks.due("runAll " + mask, x.runAll(mask), CaseExecutor.REFUSED);
        }
        checks.due("refused", x.count(0), 9);
    }

    private static void toldRefuses() {
        CaseExecutor x = new CaseExecutor();
        for (int p : OUT_OF_RANGE_PROGRAMS) {
            checks.due("told of " + p, x.told(p, 0), CaseExecutor.REFUSED);
        }
        for (int what : new int[] {-1, 8, Integer.MIN_VALUE, Integer.MAX_VALUE}) {
            checks.due("told " + what + " of none", x.told(0, what), CaseExecutor.REFUSED);
        }
        x.run(0, false);
        checks.due("told -1", x.told(0, -1), CaseExecutor.REFUSED);
        checks.due("told 8", x.told(0, 8), CaseExecutor.REFUSED);
    }

    private static void toldLatest() {
        CaseExecutor x = with(2, 21, 0);
        x.run(2, false);
        checks.due("first", x.told(2, 1), 10);
        x.run(2, true);
        checks.due("second", x.told(2, 1), 22);
        checks.due("asked again", x.told(2, 1), 22);
        told("numbers like constants", actions(0, 97), 0, -3, 1);
    }

    private static void cellAnswers() {
        CaseExecutor x = with(4, 0, 109, 5, 100, 0, 101, 5, 107);
        x.run(4, false);
        checks.due("cell 0", x.cell(4, 0), 9);
        checks.due("cell 1", x.cell(4, 1), 0);
        checks.due("cell 7", x.cell(4, 7), 10);
        checks.due("another's", x.cell(3, 0), 0);
        for (int i : new int[] {-1, 8, Integer.MIN_VALUE, Integer.MAX_VALUE}) {
            checks.due("cell " + i, x.cell(4, i), CaseExecutor.REFUSED);
            checks.due("cell " + i + " of none", x.cell(0, i), CaseExecutor.REFUSED);
        }
        for (int p : OUT_OF_RANGE_PROGRAMS) {
            checks.due("cell of " + p, x.cell(p, 0), CaseExecutor.REFUSED);
        }
    }

    private static void counterAdds() {
        CaseExecutor x = with(0, 19, 0, 19, 255, 19, 100, 2, 100, 19, 255);
        x.run(0, false);
        checks.due("counter", x.counter(), 55);
        x.run(0, true);
        checks.due("counter", x.counter(), 110);
        x.clear(0);
        checks.due("counter stays", x.counter(), 110);
        x.add(0, 19, 0);
        x.runAll(1);
        x.runAll(1);
        checks.due("counter below 0", x.counter(), -90);
    }

    private static void countAnswers() {
        CaseExecutor x = with(5, 7, kn(8, 0));
        x.run(5, false);
        x.run(5, true);
        x.run(0, false);
        x.runAll(3);
        checks.due("runs", x.count(0), 5);
        checks.due("threads", x.count(1), 3);
        checks.due("troubled", x.count(2), 2);
        checks.due("actions of 0", x.count(3), 0);
        checks.due("actions of 5", x.count(8), 1);
        for (int what : new int[] {-1, 9, Integer.MIN_VALUE, Integer.MIN_VALUE + 2, Integer.MAX_VALUE}) {
            checks.due("count " + what, x.count(what), CaseExecutor.REFUSED);
        }
    }

    private static void arithmetic() {
        told("add", actions(0, 0), 0, -100);
        told("add", actions(0, 255), 0, 155);
        told("multiply", actions(0, 107, 1, 94), 0, -42);
        told("divide", actions(0, 93, 2, 102), 0, -3);
        told("divide", actions(0, 107, 2, 98), 0, -3);
        told("remainder", actions(0, 93, 3, 102), 0, -1);
        told("remainder", actions(0, 107, 3, 97), 0, 1);
        told("divide by 0", actions(0, 107, 2, 100), 100, 7, 2, 0, 0, 1, -1);
        told("remainder by 0", actions(3, 100), 100, 0, 1, 0, 0, 0, -1);
        int wrapped = 155 * 155 * 155 * 155 * 155;
        told("wraps", actions(0, 255, 1, 255, 1, 255, 1, 255, 1, 255), 0, wrapped);
        // 2 ^ 31 is -2 ^ 31 as an int, and stays it when divided by -1
        told("least", actions(0, 102, 14, kn(15, 1), 1, 102, 14, kn(15, 1), 1, 102), 0, Integer.MIN_VALUE);
        told("least by -1", actions(0, 102, 14, kn(15, 1), 1, 102, 14, kn(15, 1), 1, 102, 2, 99), 0, Integer.MIN_VALUE);
        told("rest by -1", actions(0, 102, 14, kn(15, 1), 1, 102, 14, kn(15, 1), 1, 102, 3, 99), 0, 0);
        told("least's negative", actions(11, 6, 0, 102, 14, kn(15, 1), 1, 102, 14, kn(15, 1), 1, 102), 0, Integer.MIN_VALUE);
    }

    private static void cellsOfARun() {
        for (int i = 0; i < 8; i++) {
            told("load " + i, actions(0, 110 + i, 5, 100 + i, 0, 101, 4, 100 + i), 0, 10 + i);
        }
        for (int argument : new int[] {0, 99, 108, 255}) {
            told("load", actions(0, 101, 4, argument), 101, 1, 2, 0, 0, 1, -1);
            told("keep", actions(0, 101, 5, argument), 101, 1, 2, 0, 0, 1, -1);
        }
        told("load what was never kept", actions(0, 101, 4, 103), 0, 0);
    }

    private static void breaks() {
        for (int k = 0; k < 16; k++) {
            for (int n = 0; n < 16; n += 5) {
                if (k <= 5) {
                    told("break " + k, actions(0, 101, 6, kn(k, n)), 100 + k, 1, 2, 0, 0, 1, -1);
                } else {
                    told("break " + k, actions(0, 150, 6, kn(k, n)), 0, n, 2, 0, 0, -1, -1);
                }
            }
        }
    }

    private static void throwsOfEachKind() {
        for (int k = 0; k < 16; k++) {
            boolean throwing = k >= 7 && k <= 10;
            told("throw " + k, actions(0, 104, 7, kn(k, 5)), throwing ? 100 + k : 0, 4, 2, 0, 0,
                    throwing ? 1 : -1, k == 10 ? 5 : -1, 0);
        }
        told("thrown INTERRUPTED leaves the mark", actions(8, 0, 7, kn(7, 0)), 107, 0, 2, 0, 0, 1, -1, 1);
    }

    /** An action in which the trouble comes up. */
    private static int[] trouble(int number) {
        if (number <= 5) {
            return actions(6, kn(number, 1));
        }
        return number == 6 ? actions(15, 0) : actions(7, kn(number, 9));
    }

    private static void takers() {
        // row K: bit T is set if K takes the trouble T
        int[] takes = {1, 2, 4, 8, 16, 32, 64, 128, 256, 512, 1024, 0x37f, 0x202, 0x480, 0x37f, 0x7ff};
        for (int k = 0; k < 16; k++) {
            for (int t = 0; t <= 10; t++) {
                int[] action = trouble(t);
                int[] program = actions(0, 103, 10, kn(k, 1), action[0], action[1], 5, 101);
                int caught = 1000 + 16 * t + (t == 10 ? 9 : 0);
                String name = "catch " + k + " of " + t;
                if ((takes[k] >> t & 1) == 0) {
                    told(name, program, 100 + t, 3, 3, 0, 0, 2, t == 10 ? 9 : -1);
                } else if (k == 14) {
                    told(name, program, 110, caught, 3, 0, 1, 1, 14);
                } else {
                    checks.due(name, told(name, program, 0, caught, 4, 0, 1, -1, -1).cell(0, 1), caught);
                }
            }
            told("catch nothing", actions(10, kn(k, 1), 0, 103), 0, 3, 2, 0, 0, -1, -1);
            told("catch no STOP", actions(10, kn(k, 1), 20, 0, 0, 103), 0, 0, 2, 0, 0, -1, -1);
        }
    }

    private static void letsGoOn() {
        told("caught outside", actions(10, kn(10, 2), 10, kn(14, 1), 2, 100), 0, 1174, 3, 0, 2, -1, -1);
        told("by the inner one first", actions(10, kn(0, 2), 10, kn(15, 1), 2, 100), 0, 1000, 3, 0, 1, -1, -1);
        told("passed by the inner one", actions(10, kn(0, 2), 10, kn(1, 1), 2, 100), 0, 1000, 3, 0, 1, -1, -1);
        told("lets OWN pass", actions(10, kn(14, 2), 10, kn(14, 1), 2, 100), 110, 1000, 3, 0, 1, 1, 14);
        told("not one behind", actions(2, 100, 10, kn(15, 1), 0, 101), 100, 0, 1, 0, 0, 0, -1);
        told("not one before", actions(10, kn(15, 1), 0, 101, 2, 100), 100, 1, 3, 0, 0, 2, -1);
        told("a second trouble", actions(10, kn(15, 1), 7, kn(10, 4), 2, 100), 100, 1164, 3, 0, 1, 2, -1);
    }

    private static void marks() {
        told("set", actions(8, 0), 0, 0, 1, 0, 0, -1, -1, 1);
        told("looked at", actions(8, 0, 9, 0), 0, 1, 2, 0, 0, -1, -1, 0);
        told("looked at twice", actions(8, 0, 9, 0, 9, 0), 0, 0, 3, 0, 0, -1, -1, 0);
        told("not set", actions(0, 105, 9, 0), 0, 0, 2, 0, 0, -1, -1, 0);
        told("sleep", actions(17, 0), 0, 0, 1, 0, 0, -1, -1, 0);
        told("sleep, marked", actions(8, 0, 8, 0, 17, 0), 107, 0, 3, 0, 0, 2, -1, 0);
        told("sleep again", actions(8, 0, 10, kn(7, 1), 17, 0, 17, 0), 0, 1112, 4, 0, 1, -1, -1, 0);
    }

    private static void blocks() {
        told("longer than the program", actions(11, 15, 0, 101), 0, -1, 2, 1, 0);
        told("longer than its own block", actions(11, 2, 11, 15, 0, 101, 0, 102), 0, 3, 4, 2, 0);
        told("empty", actions(0, 105, 11, 0, 0, 101), 0, -4, 3, 1, 0);
        told("last", actions(0, 105, 11, 3), 0, -5, 2, 1, 0);
        told("thirteen deep", actions(11, 15, 11, 15, 11, 15, 11, 15, 11, 15, 11, 15, 11, 15, 11, 15, 11, 15,
                11, 15, 11, 15, 11, 15, 11, 15, 0, 101), 0, -1, 14, 13, 0);
        told("behind the block", actions(10, kn(0, 2), 2, 100, 0, 101, 0, 102), 0, 1002, 3, 0, 1);
        told("thirteen long", actions(11, 13, 0, 101, 0, 101, 0, 101, 0, 101, 0, 101, 0, 101, 0, 101, 0, 101,
                0, 101, 0, 101, 0, 101, 0, 101, 0, 101), 0, -13, 14, 1, 0);
    }

    private static void finallyAndDrop() {
        told("finally", actions(11, 1, 0, 107, 0, 101), 0, -6, 3, 1, 0);
        told("finally, trouble", actions(11, 2, 0, 107, 7, kn(10, 2), 0, 101), 110, -7, 3, 1, 0, 2, 2);
        told("finally, stop", actions(11, 2, 0, 107, 20, 0, 0, 101), 0, -7, 3, 1, 0, -1, -1);
        told("drop", actions(12, 1, 0, 107, 0, 101), 0, 8, 3, 1, 0);
        told("drop, trouble", actions(12, 2, 0, 107, 7, kn(10, 2), 0, 101), 0, 8, 4, 1, 0, -1, -1);
        told("drop, stop", actions(12, 2, 0, 107, 20, 0, 0, 101), 0, 8, 4, 1, 0, -1, -1);
        told("drop what goes on", actions(12, 3, 11, 2, 0, 107, 2, 100, 0, 101), 0, -6, 5, 2, 0, -1, -1);
        told("drop what was let go on", actions(12, 2, 10, kn(14, 1), 2, 100, 0, 101), 0, 1001, 4, 1, 1, -1, -1);
        told("stop", actions(0, 101, 20, 0, 0, 101), 0, 1, 2, 0, 0, -1, -1);
    }

    private static void monitors() {
        for (int k = 0; k < 16; k++) {
            int other = k ^ 1;
            told("held", actions(13, kn(k, 1), 18, kn(k, 0)), 0, 1, 2);
            told("held, by parity", actions(13, kn(k, 1), 18, kn(k ^ 2, 0)), 0, 1, 2);
            told("other not held", actions(0, 105, 13, kn(k, 1), 18, kn(other, 0)), 0, 0, 3);
            told("let go", actions(0, 105, 13, kn(k, 0), 18, kn(k, 0)), 0, 0, 3);
            told("notify", actions(13, kn(k, 1), 15, kn(k, 0)), 0, 0, 2);
            told("notify other", actions(13, kn(k, 1), 15, kn(other, 0)), 106, 0, 2, 0, 0, 1, -1);
            told("wait", actions(13, kn(k, 1), 16, kn(k, 0)), 0, 0, 2);
            told("wait for other", actions(13, kn(k, 1), 16, kn(other, 0)), 106, 0, 2, 0, 0, 1, -1);
            told("wait, marked", actions(8, 0, 13, kn(k, 1), 16, kn(k, 0)), 107, 0, 3, 0, 0, 2, -1, 0);
            told("wait, marked, not held", actions(8, 0, 16, kn(k, 0)), 106, 0, 2, 0, 0, 1, -1, 1);
        }
        told("twice", actions(13, 2, 13, 0, 18, 0), 0, 1, 3);
        told("twice, let go", actions(13, 1, 13, 0, 18, 0), 0, 0, 3);
        told("both", actions(13, kn(0, 3), 13, kn(1, 2), 15, 0, 18, 16), 0, 1, 4);
        told("let go by trouble", actions(12, 2, 13, 1, 2, 100, 0, 105, 18, 0), 0, 0, 5);
        told("let go by stop", actions(12, 2, 13, 1, 20, 0, 0, 105, 18, 0), 0, 0, 5);
        told("still held by the outer", actions(13, 4, 12, 2, 13, 1, 2, 100, 18, 0), 0, 1, 5);
    }

    private static void repeats() {
        for (int k = 0; k < 16; k++) {
            told("repeat " + k, actions(14, kn(k, 1), 0, 101, 0, 200), 0, 100 + k, 2 + k);
        }
        told("repeat, empty block", actions(14, kn(15, 0), 0, 101), 0, 1, 2);
        told("repeat in repeat", actions(14, kn(3, 2), 14, kn(4, 1), 0, 101), 0, 12, 16);
        told("repeat, stop", actions(14, kn(5, 2), 0, 101, 20, 0, 0, 101), 0, 1, 3);
        told("repeat, trouble", actions(14, kn(5, 2), 0, 101, 2, 100, 0, 101), 100, 1, 3, 0, 0, 2);
        told("repeat, caught outside", actions(10, kn(0, 3), 14, kn(5, 2), 0, 101, 2, 100, 0, 101), 0, 1001, 5, 0, 1);
        told("repeat, caught inside", actions(14, kn(5, 2), 10, kn(0, 1), 2, 100), 0, 1000, 11, 0, 5);
        told("repeat, dropped inside", actions(14, kn(5, 2), 12, 1, 20, 0), 0, 0, 11, 5, 0);
    }

    /** Program of 241 + 141 + 13 + 5 steps, the last of them the given action, and then another action. */
    private static int[] fourHundred(int op, int argument, int nextOp, int nextArgument) {
        return actions(14, kn(15, 2), 14, kn(15, 1), 0, 101, 14, kn(14, 2), 14, kn(9, 1), 0, 101,
                14, kn(12, 1), 0, 101, 0, 101, 0, 101, 0, 101, 0, 101, op, argument, nextOp, nextArgument);
    }

    private static void stepLimit() {
        int adds = 225 + 126 + 12 + 4;
        told("the 400th is done", fourHundred(0, 101, 0, 101), 0, adds + 1, 400, 0, 0, -1, -1);
        told("the 401st is not", fourHundred(0, 101, 7, kn(8, 0)), 0, adds + 1, 400, 0, 0, -1, -1);
        told("trouble in the 400th", fourHundred(7, kn(10, 6), 0, 101), 110, adds, 400, 0, 0, 12, 6);
        told("caught in the 400th", fourHundred(10, kn(15, 1), 7, kn(8, 0)), 0, adds, 400, 0, 0, -1, -1);
        told("finally in the 400th", fourHundred(11, 1, 0, 101), 0, -adds, 400, 1, 0, -1, -1);
        told("an empty block in the 400th", fourHundred(11, 0, 0, 101), 0, -adds, 400, 1, 0, -1, -1);

        // 1 + 12 * 31 + 1 + 13 * 2 = 400, so 12 * 15 + 13 are added and as many counted
        int[] loop = actions(14, kn(15, 3), 14, kn(15, 2), 0, 101, 19, 101, 0, 200);
        CaseExecutor x = told("a loop", loop, 0, 193, 400, 0, 0, -1, -1);
        checks.due("counted, twice", x.counter(), 2 * 193);
        // one step less for the loop: the 193rd is added, not counted
        told("finally still", actions(11, 4, 14, kn(15, 3), 14, kn(15, 2), 0, 101, 19, 101), 0, -193, 400, 1, 0);
        told("drop forgets, yet no more", actions(12, 4, 14, kn(15, 3), 14, kn(15, 2), 0, 101, 19, 101, 0, 200),
                0, 193, 400, 1, 0, -1, -1);
        told("no catch of it", actions(10, kn(15, 4), 14, kn(15, 3), 14, kn(15, 2), 0, 101, 19, 101),
                0, 193, 400, 0, 0, -1, -1);
        // 1 + 8 * 46 + 1 + 10 * 3 = 400
        told("drop in the loop", actions(14, kn(15, 4), 14, kn(15, 3), 12, 2, 0, 101, 2, 100),
                0, 130, 400, 130, 0, -1, -1);
    }

    private static void names() {
        for (int p = 0; p < 6; p++) {
            CaseExecutor x = with(p, 0, 101, 21, 77);
            x.run(p, false);
            checks.due("on the spot", x.told(p, 1), 10);
            x.run(p, true);
            checks.due("by a thread", x.told(p, 1), 20 + p);
            x.run(p, false);
            x.runAll(1 << p);
            checks.due("by runAll", x.told(p, 1), 20 + p);
        }
    }

    private static void objectsAreApart() {
        CaseExecutor x = with(0, 19, 101, 0, 105, 5, 100);
        CaseExecutor y = new CaseExecutor();
        x.run(0, true);
        checks.due("another's counter", y.counter(), 0);
        checks.due("another's runs", y.count(0), 0);
        checks.due("another's actions", y.count(3), 0);
        checks.due("another's told", y.told(0, 0), CaseExecutor.NOT_RUN);
        checks.due("another's cell", y.cell(0, 0), 0);
    }
}
