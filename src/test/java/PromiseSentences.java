/** Promises 1 to 9, sentence by sentence. */
final class PromiseSentences extends Cases {
    private final Sentences doc;

    PromiseSentences(Sentences itsDoc) {
        doc = itsDoc;
    }

    void all() {
        newObjectAddAndClear();
        runs();
        toldOfRuns();
        cellsAndCounts();
    }

    private void newObjectAddAndClear() {
        doc.section("Promise 1: A new object");
        doc.sentence("CaseExecutor(): Empty programs.", this::newObject);
        doc.section("Promise 2: add");
        doc.sentence("int add(int program, int op, int argument): Adds an action", this::addAdds);
        doc.sentence("(op 0 .. 21,", this::addOps);
        doc.sentence("argument 0 .. 255)", this::addArguments);
        doc.sentence("to the program (0 .. 5), else REFUSED;", this::addPrograms);
        doc.sentence("14 are there: FULL.", this::addFull);
        doc.sentence("What was told of its latest RUN is forgotten.", this::addForgets);
        doc.sentence("Answers its number.", this::addNumbers);
        doc.section("Promise 3: clear");
        doc.sentence("int clear(int program): Empties the program;", this::clearEmpties);
        doc.sentence("what was told of its latest RUN is forgotten: DONE;", this::clearForgets);
        doc.sentence("else REFUSED.", this::clearRefuses);
    }

    private void runs() {
        doc.section("Promise 4: run");
        doc.sentence("int run(int program, boolean thread): Runs the program", this::runRuns);
        doc.sentence("(0 .. 5, else REFUSED)", this::runPrograms);
        doc.sentence("on the spot, or by a thread of its own,", this::runWays);
        doc.sentence("which is over when this answers.", this::runIsOver);
        doc.sentence("Answers DONE, or 100 + the TROUBLE that ended it.", this::runAnswers);
        doc.section("Promise 5: runAll");
        doc.sentence("int runAll(int mask): Runs all programs of the mask", this::runAllRuns);
        doc.sentence("(0 .. 63, else REFUSED),", this::runAllMasks);
        doc.sentence("each by a thread of its own,", this::runAllThreads);
        doc.sentence("at the same time; all are over when this answers.", this::runAllIsOver);
        doc.sentence("Answers how many of them ended with a TROUBLE.", this::runAllAnswers);
    }

    private void toldOfRuns() {
        doc.section("Promise 6: told");
        doc.sentence("int told(int program, int what): Of the latest RUN of the program:", this::toldLatest);
        doc.sentence("DONE, or 100 + the TROUBLE (what 0);", this::toldOutcome);
        doc.sentence("the ACCUMULATOR (1);", this::toldAccumulator);
        doc.sentence("STEPS (2);", this::toldSteps);
        doc.sentence("FINALS (3);", this::toldFinals);
        doc.sentence("CATCHES (4);", this::toldCatches);
        doc.sentence("the number of the action that the TROUBLE ending it came up in", this::toldAction);
        doc.sentence("(-1 if there was none;", this::toldNoAction);
        doc.sentence("for what CATCH lets go on that action) (5);", this::toldActionOfCatch);
        doc.sentence("the number that the OWN ending it has, else -1 (6);", this::toldOwnNumber);
        doc.sentence("1 if the mark was set at the end, else 0 (7).", this::toldMark);
        doc.sentence("No such program or what: REFUSED;", this::toldRefuses);
        doc.sentence("NOT_RUN.", this::toldNotRun);
        doc.sentence("(A number told may be these, too.)", this::toldLikeConstants);
    }

    private void cellsAndCounts() {
        doc.section("Promise 7: cell");
        doc.sentence("int cell(int program, int i): Cell i (0 .. 7) at the end of the program's latest RUN,", this::cellAtEnd);
        doc.sentence("0 if there was none;", this::cellOfNone);
        doc.sentence("REFUSED out of range.", this::cellRefuses);
        doc.section("Promise 8: counter");
        doc.sentence("long counter(): THE COUNTER.", this::counter);
        doc.section("Promise 9: count");
        doc.sentence("int count(int what): How many RUNS there were so far (0),", this::countRuns);
        doc.sentence("of them by threads (1),", this::countThreads);
        doc.sentence("ended with a TROUBLE (2);", this::countTroubled);
        doc.sentence("actions of program what - 3 (3 .. 8);", this::countActions);
        doc.sentence("another what: REFUSED.", this::countRefuses);
    }

    // Promise 1

    private void newObject() {
        CaseExecutor x = new CaseExecutor();
        for (int p = 0; p < PROGRAMS; p++) {
            doc.due("actions of " + p, x.count(3 + p), 0);
            doc.due("first number in " + p, x.add(p, STOP, 0), 0);
        }
        CaseExecutor y = used();
        CaseExecutor z = new CaseExecutor();
        for (int p = 0; p < PROGRAMS; p++) {
            doc.due("a new one beside a used one, actions of " + p, z.count(3 + p), 0);
            doc.due("a new one's empty program " + p, z.run(p, false), CaseExecutor.DONE);
            doc.due("a new one's steps of " + p, z.told(p, 2), 0);
        }
        doc.due("the used one", y.told(5, 0), 110);
    }

    // Promise 2: add

    private void addAdds() {
        CaseExecutor x = new CaseExecutor();
        x.add(2, ADD, v(7));
        doc.due("one is there", x.count(5), 1);
        x.run(2, false);
        doc.due("one is done", x.told(2, 1), 7);
        x.add(2, MULTIPLY, v(3));
        doc.due("two are there", x.count(5), 2);
        x.run(2, false);
        doc.due("the new one is the last", x.told(2, 1), 21);
        doc.due("two are done", x.told(2, 2), 2);
    }

    private void addOps() {
        for (int op = 0; op <= 21; op++) {
            CaseExecutor x = new CaseExecutor();
            doc.due("op " + op, x.add(0, op, 0), 0);
            doc.due("op " + op + ", actions", x.count(3), 1);
        }
        CaseExecutor x = with(0, ADD, v(9), NAME, 0);
        doc.due("op 21 is done", x.run(0, false), CaseExecutor.DONE);
        doc.due("op 21 is NAME", x.told(0, 1), 10);
        refusedAdds("op", outside(0, 21), 1);
    }

    private void addArguments() {
        CaseExecutor x = new CaseExecutor();
        doc.due("argument 0", x.add(0, ADD, 0), 0);
        x.run(0, false);
        doc.due("argument 0 is kept", x.told(0, 1), -100);
        doc.due("argument 255", x.add(1, ADD, 255), 0);
        x.run(1, false);
        doc.due("argument 255 is kept", x.told(1, 1), 155);
        refusedAdds("argument", outside(0, 255), 2);
    }

    private void addPrograms() {
        CaseExecutor x = new CaseExecutor();
        for (int p = 0; p < PROGRAMS; p++) {
            for (int i = 0; i <= p; i++) {
                doc.due("program " + p, x.add(p, ADD, v(1)), i);
            }
        }
        for (int p = 0; p < PROGRAMS; p++) {
            doc.due("actions of " + p, x.count(3 + p), p + 1);
        }
        refusedAdds("program", outside(0, 5), 0);
        CaseExecutor full = with(0);
        for (int i = 0; i < MOST_ACTIONS; i++) {
            full.add(0, ADD, v(1));
        }
        doc.due("out of range comes before FULL, op", full.add(0, 22, 0), CaseExecutor.REFUSED);
        doc.due("out of range comes before FULL, argument", full.add(0, 0, 256), CaseExecutor.REFUSED);
    }

    /** Adds with one number (0 program, 1 op, 2 argument) replaced by a wrong one. */
    private void refusedAdds(String what, int[] wrongOnes, int which) {
        CaseExecutor x = used();
        long[] before = state(x);
        for (int wrong : wrongOnes) {
            int[] numbers = {0, ADD, v(1)};
            numbers[which] = wrong;
            doc.due(what + " " + wrong, x.add(numbers[0], numbers[1], numbers[2]), CaseExecutor.REFUSED);
        }
        doc.unchanged("a refused " + what, before, x);
    }

    private void addFull() {
        for (int p = 0; p < PROGRAMS; p++) {
            CaseExecutor x = used();
            for (int i = x.count(3 + p); i < MOST_ACTIONS; i++) {
                doc.due("there is room for number " + i, x.add(p, ADD, v(1)), i);
            }
            x.run(p, true);
            long[] before = state(x);
            doc.due("the 15th in " + p, x.add(p, ADD, v(1)), CaseExecutor.FULL);
            doc.due("and again", x.add(p, COUNT, 0), CaseExecutor.FULL);
            doc.unchanged("FULL", before, x);
            int other = (p + 1) % PROGRAMS;
            doc.due("there is room in another", x.add(other, ADD, 0), x.count(3 + other) - 1);
            x.clear(p);
            doc.due("there is room again after clear", x.add(p, ADD, 0), 0);
        }
    }

    private void addForgets() {
        CaseExecutor x = used();
        x.add(4, ADD, v(1));
        for (int what = 0; what < 8; what++) {
            doc.due("told " + what, x.told(4, what), CaseExecutor.NOT_RUN);
        }
        doc.due("of no other program, below", x.told(3, 0), 110);
        doc.due("of no other program, above", x.told(5, 0), 110);
        doc.due("that there was a RUN is not forgotten", x.count(0), 6);
        x.run(4, false);
        doc.due("and told again of the next RUN", x.told(4, 0), 110);
        CaseExecutor y = new CaseExecutor();
        y.run(0, false);
        doc.due("of an empty program", y.told(0, 0), CaseExecutor.DONE);
        y.add(0, ADD, 0);
        doc.due("forgotten by its first action", y.told(0, 0), CaseExecutor.NOT_RUN);
        y.add(0, ADD, 0);
        doc.due("forgotten still", y.told(0, 0), CaseExecutor.NOT_RUN);
    }

    private void addNumbers() {
        CaseExecutor x = new CaseExecutor();
        for (int i = 0; i < MOST_ACTIONS; i++) {
            doc.due("in program 0", x.add(0, ADD, v(i)), i);
            doc.due("in program 5", x.add(5, DROP, i), i);
            x.add(0, -1, 0);
            x.run(0, false);
        }
        x.clear(5);
        doc.due("from 0 again after clear", x.add(5, ADD, 0), 0);
        doc.due("and on", x.add(5, ADD, 0), 1);
    }

    // Promise 3: clear

    private void clearEmpties() {
        for (int p = 0; p < PROGRAMS; p++) {
            CaseExecutor x = used();
            long counter = x.counter();
            x.clear(p);
            for (int other = 0; other < PROGRAMS; other++) {
                doc.due("clear(" + p + "), actions of " + other, x.count(3 + other), other == p ? 0 : 6);
            }
            doc.due("nothing is left to run", x.run(p, false), CaseExecutor.DONE);
            doc.due("no step", x.told(p, 2), 0);
            doc.due("THE COUNTER stays", x.counter(), counter);
            doc.due("RUNS stay counted", x.count(0), 7);
            x.add(p, ADD, v(3));
            doc.due("only what is added then is done", x.run(p, false), CaseExecutor.DONE);
            doc.due("one step", x.told(p, 2), 1);
            doc.due("its ACCUMULATOR", x.told(p, 1), 3);
        }
    }

    private void clearForgets() {
        CaseExecutor x = used();
        doc.due("clear", x.clear(0), CaseExecutor.DONE);
        for (int what = 0; what < 8; what++) {
            doc.due("told " + what, x.told(0, what), CaseExecutor.NOT_RUN);
        }
        doc.due("of no other program", x.told(1, 0), 110);
        doc.due("clear of an empty one", x.clear(0), CaseExecutor.DONE);
        x.run(0, true);
        doc.due("an empty one's RUN is told", x.told(0, 0), CaseExecutor.DONE);
        doc.due("clear of an empty one that has been run", x.clear(0), CaseExecutor.DONE);
        doc.due("is forgotten, too", x.told(0, 0), CaseExecutor.NOT_RUN);
        doc.due("clear in a new object", new CaseExecutor().clear(5), CaseExecutor.DONE);
    }

    private void clearRefuses() {
        CaseExecutor x = used();
        long[] before = state(x);
        for (int p : outside(0, 5)) {
            doc.due("clear(" + p + ")", x.clear(p), CaseExecutor.REFUSED);
        }
        doc.unchanged("a refused clear", before, x);
        doc.due("0 is in range", x.clear(0), CaseExecutor.DONE);
        doc.due("5 is in range", x.clear(5), CaseExecutor.DONE);
    }

    // Promise 4: run

    private void runRuns() {
        CaseExecutor x = new CaseExecutor();
        for (int p = 0; p < PROGRAMS; p++) {
            put(x, p, ADD, v(p + 1), COUNT, v(1));
        }
        for (int p = 0; p < PROGRAMS; p++) {
            x.run(p, p % 2 == 1);
            doc.due("its own actions, of " + p, x.told(p, 1), p + 1);
            doc.due("once", x.counter(), p + 1);
            if (p < 5) {
                doc.due("and no other program", x.told(p + 1, 0), CaseExecutor.NOT_RUN);
            }
        }
        doc.due("an empty one", new CaseExecutor().run(3, false), CaseExecutor.DONE);
        doc.due("an empty one by a thread", new CaseExecutor().run(3, true), CaseExecutor.DONE);
    }

    private void runPrograms() {
        CaseExecutor x = used();
        long[] before = state(x);
        for (int p : outside(0, 5)) {
            doc.due("on the spot, " + p, x.run(p, false), CaseExecutor.REFUSED);
            doc.due("by a thread, " + p, x.run(p, true), CaseExecutor.REFUSED);
        }
        doc.unchanged("a refused run", before, x);
        doc.due("0 is in range", x.run(0, false), 110);
        doc.due("5 is in range", x.run(5, true), 110);
    }

    private void runWays() {
        for (int p = 0; p < PROGRAMS; p++) {
            CaseExecutor x = with(p, NAME, 0);
            x.run(p, false);
            doc.due("on the spot", x.told(p, 1), 10);
            doc.due("no thread", x.count(1), 0);
            x.run(p, true);
            doc.due("by a thread", x.told(p, 1), 20 + p);
            doc.due("a thread", x.count(1), 1);
            x.run(p, false);
            doc.due("on the spot again", x.told(p, 1), 10);
        }
    }

    private void runIsOver() {
        int threadsBefore = Thread.activeCount();
        CaseExecutor x = with(1, HOLD, kn(0, 3), WAIT, 0, SLEEP, 0, COUNT, v(5),
                KEEP, v(0), ADD, v(6), KEEP, v(7));
        for (int i = 1; i <= 20; i++) {
            doc.due("run", x.run(1, true), CaseExecutor.DONE);
            doc.due("all has been counted", x.counter(), 5 * i);
            doc.due("all has been done", x.told(1, 2), 7);
            doc.due("all has been kept", x.cell(1, 7), 6);
        }
        doc.due("no thread is left", Thread.activeCount(), threadsBefore);
    }

    private void runAnswers() {
        for (int way = 0; way < 2; way++) {
            boolean thread = way == 1;
            doc.due("DONE", with(0, ADD, 0).run(0, thread), CaseExecutor.DONE);
            doc.due("DONE by STOP", with(0, STOP, 0).run(0, thread), CaseExecutor.DONE);
            doc.due("DONE with a mark", with(0, INTERRUPT, 0).run(0, thread), CaseExecutor.DONE);
            for (int t = 0; t <= 10; t++) {
                doc.due("TROUBLE " + t, with(0, trouble(t)).run(0, thread), 100 + t);
                int[] caught = joined(actions(CATCH, kn(15, 1)), trouble(t));
                doc.due("TROUBLE " + t + " that ended nothing", with(0, caught).run(0, thread), CaseExecutor.DONE);
            }
        }
    }

    // Promise 5: runAll

    private void runAllRuns() {
        for (int mask = 0; mask < 64; mask++) {
            CaseExecutor x = new CaseExecutor();
            for (int p = 0; p < PROGRAMS; p++) {
                put(x, p, COUNT, v(1 << p));
            }
            x.runAll(mask);
            doc.due("mask " + mask + ": each of it once", x.counter(), mask);
            doc.due("mask " + mask + ": RUNS", x.count(0), Integer.bitCount(mask));
            for (int p = 0; p < PROGRAMS; p++) {
                doc.due("mask " + mask + ": told of " + p, x.told(p, 0),
                        (mask >> p & 1) == 1 ? CaseExecutor.DONE : CaseExecutor.NOT_RUN);
            }
        }
    }

    private void runAllMasks() {
        CaseExecutor x = used();
        long[] before = state(x);
        for (int mask : outside(0, 63)) {
            doc.due("mask " + mask, x.runAll(mask), CaseExecutor.REFUSED);
        }
        doc.due("mask 127", x.runAll(127), CaseExecutor.REFUSED);
        doc.unchanged("a refused mask", before, x);
        doc.due("mask 0 is in range", x.runAll(0), 0);
        doc.unchanged("mask 0", before, x);
        doc.due("mask 63 is in range", x.runAll(63), 6);
    }

    private void runAllThreads() {
        CaseExecutor x = new CaseExecutor();
        for (int p = 0; p < PROGRAMS; p++) {
            put(x, p, NAME, 0);
        }
        x.run(0, false);
        x.runAll(63);
        for (int p = 0; p < PROGRAMS; p++) {
            doc.due("the name in " + p, x.told(p, 1), 20 + p);
        }
        doc.due("threads", x.count(1), 6);
        x.runAll(8);
        doc.due("one program alone, too", x.told(3, 1), 23);
        doc.due("threads then", x.count(1), 7);
    }

    private void runAllIsOver() {
        int threadsBefore = Thread.activeCount();
        CaseExecutor x = new CaseExecutor();
        for (int p = 0; p < PROGRAMS; p++) {
            put(x, p, HOLD, kn(0, 5), HOLD, kn(1, 4), WAIT, kn(0, 0),
                    WAIT, kn(1, 0), HELD, kn(1, 0), KEEP, v(p), COUNT, v(1 + p));
        }
        for (int i = 1; i <= 10; i++) {
            doc.due("nobody keeps another waiting", x.runAll(63), 0);
            doc.due("all have counted", x.counter(), 21L * i);
            for (int p = 0; p < PROGRAMS; p++) {
                doc.due("program " + p + " has done all", x.told(p, 2), 7);
                doc.due("program " + p + " has kept", x.cell(p, p), 1);
            }
        }
        doc.due("no thread is left", Thread.activeCount(), threadsBefore);
    }

    private void runAllAnswers() {
        for (int troubled = 0; troubled < 64; troubled++) {
            CaseExecutor x = new CaseExecutor();
            for (int p = 0; p < PROGRAMS; p++) {
                put(x, p, (troubled >> p & 1) == 1 ? trouble(p) : actions(STOP, 0));
            }
            doc.due("of all", x.runAll(63), Integer.bitCount(troubled));
            doc.due("of these only", x.runAll(troubled), Integer.bitCount(troubled));
            doc.due("of the others only", x.runAll(63 - troubled), 0);
            doc.due("of half of them", x.runAll(7), Integer.bitCount(troubled & 7));
        }
    }

    // Promise 6: told

    private void toldLatest() {
        CaseExecutor x = with(2, NAME, 0, THROW, kn(8, 0));
        put(x, 3, ADD, v(4));
        x.run(2, false);
        doc.due("the first RUN", x.told(2, 1), 10);
        x.run(2, true);
        doc.due("the second RUN", x.told(2, 1), 22);
        doc.due("asked again", x.told(2, 1), 22);
        x.run(3, false);
        doc.due("after a RUN of another program", x.told(2, 1), 22);
        doc.due("of the other program", x.told(3, 1), 4);
        x.run(-1, false);
        doc.due("after a refused run", x.told(2, 0), 108);
        CaseExecutor y = used();
        y.clear(0);
        y.run(0, false);
        int[] dues = {0, 0, 0, 0, 0, -1, -1, 0};
        for (int what = 0; what < dues.length; what++) {
            doc.due("nothing of an earlier RUN is left in told " + what, y.told(0, what), dues[what]);
        }
    }

    private void toldOutcome() {
        doc.told("none", actions(), 0);
        for (int t = 0; t <= 10; t++) {
            doc.told("TROUBLE " + t, trouble(t), 100 + t);
        }
        doc.told("dropped", actions(DROP, 1, THROW, kn(10, 0)), 0);
    }

    private void toldAccumulator() {
        doc.told("of no action", actions(), 0, 0);
        doc.told("at the end", actions(ADD, v(5), ADD, v(-9)), 0, -4);
        doc.told("at the TROUBLE", actions(ADD, v(5), DIVIDE, v(0), ADD, v(1)), 100, 5);
        doc.told("the least", least(), 0, LEAST);
        doc.told("the most", joined(least(), actions(ADD, v(-1))), 0, MOST);
    }

    private void toldSteps() {
        doc.told("of no action", actions(), 0, 0, 0);
        doc.told("the one with TROUBLE is one", actions(ADD, 0, DIVIDE, v(0), ADD, 0), 100, -100, 2);
        doc.told("at most 400", actions(REPEAT, kn(15, 3), REPEAT, kn(15, 2),
                ADD, v(1), COUNT, v(1)), 0, 193, 400);
    }

    private void toldFinals() {
        doc.told("none", actions(CATCH, 1, HOLD, 0, REPEAT, 0), 0, 0, 3, 0);
        doc.told("FINALLY and DROP", actions(FINALLY, 0, DROP, 0, DROP, 0), 0, 0, 3, 3);
        doc.told("those that were done before the TROUBLE", actions(FINALLY, 1, DIVIDE, v(0),
                DROP, 0), 100, 0, 2, 1);
    }

    private void toldCatches() {
        doc.told("none", actions(CATCH, kn(15, 1), ADD, 0), 0, -100, 2, 0, 0);
        doc.told("two, of which one lets it go on", actions(CATCH, kn(15, 2), CATCH, kn(14, 1),
                DIVIDE, v(0)), 0, 1174, 3, 0, 2);
        doc.told("each time", actions(REPEAT, kn(15, 2), CATCH, kn(0, 1),
                DIVIDE, v(0)), 0, 1000, 31, 0, 15);
    }

    private void toldAction() {
        for (int at = 0; at < MOST_ACTIONS; at++) {
            CaseExecutor x = new CaseExecutor();
            for (int i = 0; i < MOST_ACTIONS; i++) {
                x.add(0, i == at ? DIVIDE : ADD, v(0));
            }
            x.run(0, true);
            doc.due("action " + at, x.told(0, 5), at);
        }
        doc.told("inside blocks", actions(FINALLY, 3, HOLD, 2, REPEAT, kn(2, 1),
                THROW, kn(9, 0)), 109, 0, 4, 1, 0, 3);
        doc.told("the one ending it, not one before", actions(CATCH, kn(15, 1), DIVIDE, v(0),
                DROP, 1, DIVIDE, v(0), THROW, kn(8, 0)), 108, 1000, 5, 1, 1, 4);
    }

    private void toldNoAction() {
        doc.told("no action", actions(), 0, 0, 0, 0, 0, -1);
        doc.told("none came up", actions(ADD, 0), 0, -100, 1, 0, 0, -1);
        doc.told("stopped", actions(STOP, 0), 0, 0, 1, 0, 0, -1);
        doc.told("caught", actions(CATCH, kn(0, 1), DIVIDE, v(0)), 0, 1000, 2, 0, 1, -1);
        doc.told("dropped", actions(DROP, 1, DIVIDE, v(0)), 0, 0, 2, 1, 0, -1);
        doc.told("let go on and dropped", actions(DROP, 2, CATCH, kn(14, 1),
                DIVIDE, v(0)), 0, 1000, 3, 1, 1, -1);
    }

    private void toldActionOfCatch() {
        doc.told("CATCH first", actions(CATCH, kn(14, 2), ADD, v(1), DIVIDE, v(0)),
                110, 1000, 3, 0, 1, 0);
        doc.told("CATCH third", actions(ADD, v(1), FINALLY, 3, CATCH, kn(14, 2),
                ADD, v(1), THROW, kn(8, 0)), 110, -1128, 5, 1, 1, 2);
        doc.told("only by the one that lets it go on", actions(CATCH, kn(14, 3), CATCH, kn(14, 2),
                CATCH, kn(1, 1), DIVIDE, v(0)), 110, 1000, 4, 0, 1, 1);
        doc.told("not if it takes nothing", actions(CATCH, kn(14, 1), THROW, kn(10, 3)),
                110, 0, 2, 0, 0, 1);
    }

    private void toldOwnNumber() {
        for (int n = 0; n < 16; n++) {
            doc.told("OWN " + n, actions(THROW, kn(10, n)), 110, 0, 1, 0, 0, 0, n);
        }
        for (int t = 0; t < 10; t++) {
            doc.told("TROUBLE " + t + " after an OWN", joined(actions(DROP, 1, THROW, kn(10, 5)),
                    trouble(t)), 100 + t, 0, 3, 1, 0, 2, -1);
        }
        doc.told("let go on", actions(CATCH, kn(14, 1), DIVIDE, v(0)), 110, 1000, 2, 0, 1, 0, 14);
        doc.told("caught", actions(CATCH, kn(10, 1), THROW, kn(10, 5)), 0, 1165, 2, 0, 1, -1, -1);
        doc.told("dropped", actions(DROP, 1, THROW, kn(10, 5)), 0, 0, 2, 1, 0, -1, -1);
        doc.told("none", actions(), 0, 0, 0, 0, 0, -1, -1);
    }

    private void toldMark() {
        doc.told("none", actions(), 0, 0, 0, 0, 0, -1, -1, 0);
        doc.told("set", actions(INTERRUPT, 0), 0, 0, 1, 0, 0, -1, -1, 1);
        doc.told("set before a TROUBLE", actions(INTERRUPT, 0, DIVIDE, v(0)), 100, 0, 2, 0, 0, 1, -1, 1);
        doc.told("set in what is dropped", actions(DROP, 2, INTERRUPT, 0, STOP, 0), 0, 0, 3, 1, 0, -1, -1, 1);
        doc.told("set no more at the end", actions(INTERRUPT, 0, LOOK, 0), 0, 1, 2, 0, 0, -1, -1, 0);
        doc.told("set again", actions(INTERRUPT, 0, LOOK, 0, INTERRUPT, 0), 0, 1, 3, 0, 0, -1, -1, 1);
    }

    private void toldRefuses() {
        CaseExecutor x = used();
        long[] before = state(x);
        CaseExecutor neverRun = new CaseExecutor();
        for (int p : outside(0, 5)) {
            doc.due("program " + p, x.told(p, 0), CaseExecutor.REFUSED);
            doc.due("program " + p + ", what 8", x.told(p, 8), CaseExecutor.REFUSED);
        }
        for (int what : outside(0, 7)) {
            doc.due("what " + what, x.told(0, what), CaseExecutor.REFUSED);
            doc.due("what " + what + " of program 5", x.told(5, what), CaseExecutor.REFUSED);
            doc.due("what " + what + " of one not run", neverRun.told(0, what), CaseExecutor.REFUSED);
        }
        doc.unchanged("a refused told", before, x);
        doc.due("0, 0 is in range", x.told(0, 0), 110);
        doc.due("5, 7 is in range", x.told(5, 7), 1);
    }

    private void toldNotRun() {
        CaseExecutor x = new CaseExecutor();
        for (int what = 0; what < 8; what++) {
            for (int p = 0; p < PROGRAMS; p++) {
                doc.due("new, told " + what, x.told(p, what), CaseExecutor.NOT_RUN);
            }
        }
        x.run(1, false);
        x.runAll(4);
        int[] dues = {CaseExecutor.NOT_RUN, 0, 0, CaseExecutor.NOT_RUN, CaseExecutor.NOT_RUN, CaseExecutor.NOT_RUN};
        for (int p = 0; p < PROGRAMS; p++) {
            doc.due("after RUNS of 1 and 2, told of " + p, x.told(p, 0), dues[p]);
        }
        x.add(1, ADD, 0);
        doc.due("after add", x.told(1, 0), CaseExecutor.NOT_RUN);
        x.clear(2);
        doc.due("after clear", x.told(2, 0), CaseExecutor.NOT_RUN);
    }

    private void toldLikeConstants() {
        doc.told("like REFUSED", actions(ADD, v(-1)), 0, CaseExecutor.REFUSED, 1);
        doc.told("like FULL", actions(ADD, v(-2)), 0, CaseExecutor.FULL, 1);
        doc.told("like NOT_RUN", actions(ADD, v(-3)), 0, CaseExecutor.NOT_RUN, 1);
    }

    // Promise 7: cell

    private void cellAtEnd() {
        for (int p = 0; p < PROGRAMS; p++) {
            CaseExecutor x = with(p, ADD, v(11 + p), KEEP, v(0), KEEP, v(3),
                    ADD, v(-50), KEEP, v(7), KEEP, v(3), DIVIDE, v(0),
                    KEEP, v(5));
            x.run(p, p % 2 == 0);
            int[] dues = {11 + p, 0, 0, p - 39, 0, 0, 0, p - 39};
            for (int i = 0; i < 8; i++) {
                doc.due("of program " + p + ", cell " + i, x.cell(p, i), dues[i]);
            }
            doc.due("asked again", x.cell(p, 7), p - 39);
            doc.due("of another program", x.cell((p + 1) % PROGRAMS, 7), 0);
        }
        CaseExecutor x = with(0, NAME, 0, KEEP, v(0));
        x.run(0, true);
        doc.due("of the first RUN", x.cell(0, 0), 20);
        x.run(0, false);
        doc.due("of the latest RUN", x.cell(0, 0), 10);
    }

    private void cellOfNone() {
        CaseExecutor x = used();
        CaseExecutor none = new CaseExecutor();
        for (int p = 0; p < PROGRAMS; p++) {
            for (int i = 0; i < 8; i++) {
                doc.due("of a new object", none.cell(p, i), 0);
            }
            doc.due("kept", x.cell(p, p), p + 1);
        }
        // a reading: what is forgotten is none
        x.add(3, ADD, 0);
        doc.due("forgotten by add", x.cell(3, 3), 0);
        x.clear(4);
        doc.due("forgotten by clear", x.cell(4, 4), 0);
        doc.due("not forgotten", x.cell(5, 5), 6);
        x.run(4, false);
        doc.due("a RUN that kept nothing", x.cell(4, 4), 0);
    }

    private void cellRefuses() {
        CaseExecutor x = used();
        CaseExecutor neverRun = new CaseExecutor();
        for (int i : outside(0, 7)) {
            doc.due("cell " + i, x.cell(0, i), CaseExecutor.REFUSED);
            doc.due("cell " + i + " of program 5", x.cell(5, i), CaseExecutor.REFUSED);
            doc.due("cell " + i + " of one not run", neverRun.cell(0, i), CaseExecutor.REFUSED);
        }
        for (int p : outside(0, 5)) {
            doc.due("program " + p, x.cell(p, 0), CaseExecutor.REFUSED);
            doc.due("program " + p + ", cell 7", x.cell(p, 7), CaseExecutor.REFUSED);
        }
        CaseExecutor y = with(0, ADD, v(-1), KEEP, v(0));
        y.run(0, false);
        doc.due("a cell may have the number of REFUSED", y.cell(0, 0), -1);
    }

    // Promise 8: counter

    private void counter() {
        CaseExecutor x = with(0, COUNT, v(-100), COUNT, v(155), COUNT, v(0),
                DIVIDE, v(0), COUNT, v(155));
        doc.due("new", x.counter(), 0);
        x.run(0, false);
        doc.due("after a RUN on the spot", x.counter(), 55);
        x.run(0, true);
        doc.due("after a RUN by a thread", x.counter(), 110);
        x.runAll(1);
        doc.due("after runAll", x.counter(), 165);
        x.clear(0);
        x.run(0, false);
        doc.due("clear takes nothing back", x.counter(), 165);
        x.add(0, COUNT, v(-100));
        doc.due("add counts nothing", x.counter(), 165);
        x.runAll(1);
        x.runAll(1);
        doc.due("below 0", x.counter(), -35);
        doc.due("another object's", new CaseExecutor().counter(), 0);
    }

    // Promise 9: count

    private void countRuns() {
        CaseExecutor x = new CaseExecutor();
        doc.due("new", x.count(0), 0);
        x.run(0, false);
        doc.due("an empty one counts", x.count(0), 1);
        x.run(0, true);
        x.run(5, false);
        doc.due("three", x.count(0), 3);
        x.runAll(0);
        doc.due("none by an empty mask", x.count(0), 3);
        x.runAll(63);
        doc.due("six by a whole mask", x.count(0), 9);
        x.run(6, true);
        x.runAll(64);
        x.add(0, THROW, kn(8, 0));
        x.clear(1);
        doc.due("none refused, none forgotten", x.count(0), 9);
        x.run(0, false);
        doc.due("with a TROUBLE, too", x.count(0), 10);
    }

    private void countThreads() {
        CaseExecutor x = new CaseExecutor();
        doc.due("new", x.count(1), 0);
        x.run(0, false);
        doc.due("on the spot", x.count(1), 0);
        x.run(0, true);
        doc.due("by a thread", x.count(1), 1);
        x.run(-1, true);
        x.runAll(-1);
        doc.due("refused", x.count(1), 1);
        x.runAll(63);
        doc.due("by runAll", x.count(1), 7);
        x.add(0, THROW, kn(8, 0));
        x.run(0, true);
        doc.due("with a TROUBLE, too", x.count(1), 8);
        x.clear(0);
        doc.due("none forgotten", x.count(1), 8);
    }

    private void countTroubled() {
        CaseExecutor x = with(5, DIVIDE, v(0));
        doc.due("new", x.count(2), 0);
        x.run(0, true);
        doc.due("without", x.count(2), 0);
        x.run(5, false);
        doc.due("on the spot", x.count(2), 1);
        x.run(5, true);
        doc.due("by a thread", x.count(2), 2);
        x.runAll(63);
        doc.due("by runAll", x.count(2), 3);
        x.clear(5);
        put(x, 5, CATCH, kn(15, 1), DIVIDE, v(0), DROP, 1, DIVIDE, v(0));
        x.run(5, true);
        doc.due("what is caught or dropped ends nothing", x.count(2), 3);
    }

    private void countActions() {
        CaseExecutor x = new CaseExecutor();
        for (int p = 0; p < PROGRAMS; p++) {
            for (int i = 0; i <= p; i++) {
                x.add(p, ADD, 0);
            }
        }
        for (int what = 3; what <= 8; what++) {
            doc.due("what " + what, x.count(what), what - 2);
        }
        for (int i = x.count(8); i < MOST_ACTIONS + 2; i++) {
            x.add(5, ADD, 0);
        }
        doc.due("at most 14", x.count(8), 14);
        x.add(0, 22, 0);
        doc.due("a refused one is none", x.count(3), 1);
        x.clear(5);
        doc.due("cleared", x.count(8), 0);
        doc.due("of no other", x.count(7), 5);
    }

    private void countRefuses() {
        CaseExecutor x = used();
        long[] before = state(x);
        for (int what : outside(0, 8)) {
            doc.due("what " + what, x.count(what), CaseExecutor.REFUSED);
        }
        doc.unchanged("a refused count", before, x);
        doc.due("0 is in range", x.count(0), 6);
        doc.due("8 is in range", x.count(8), 6);
    }
}
