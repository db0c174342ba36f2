/** Of 'Terms' what is not about one OP: programs, RUNS, BLOCKS, TROUBLES, the 400 STEPS, the constants. */
final class TermSentences extends Cases {
    private final Sentences doc;

    TermSentences(Sentences itsDoc) {
        doc = itsDoc;
    }

    void all() {
        doc.section("Terms");
        programs();
        blocksAndNumbers();
        troubles();
        limitAndConstants();
    }

    private void programs() {
        doc.sentence("PROGRAMS 0 .. 5", this::sixPrograms);
        doc.sentence("have at most 14 ACTIONS,", this::fourteenActions);
        doc.sentence("numbered from 0,", this::numberedFromZero);
        doc.sentence("each an OP and an ARGUMENT (0 .. 255);", this::opAndArgument);
        doc.sentence("none at first.", this::noActionAtFirst);
        doc.sentence("A RUN of a program has an ACCUMULATOR, 0 at first", this::accumulatorAtFirst);
        doc.sentence("(an int, wrapping),", this::accumulatorWraps);
        doc.sentence("eight CELLS, 0 at first,", this::eightCells);
        doc.sentence("STEPS, FINALS and CATCHES, 0 at first,", this::countsAtFirst);
        doc.sentence("an INTERRUPTED mark, not set at first,", this::markAtFirst);
        doc.sentence("and two monitors of its own, 0 and 1, that no other RUN uses.", this::monitorsOfItsOwn);
        doc.sentence("It does the actions in order;", this::inOrder);
        doc.sentence("each one begun is a STEP.", this::begunIsAStep);
    }

    private void blocksAndNumbers() {
        doc.sentence("BLOCKS: an action of the OPS 10 to 14 has the next N actions as its block", this::nextNActions);
        doc.sentence("(as many as there are, in the block that it stands in itself);", this::asManyAsThereAre);
        doc.sentence("they are done by it, and what is behind them follows.", this::whatIsBehindFollows);
        doc.sentence("V is the ARGUMENT less 100;", this::valueOfArgument);
        doc.sentence("N the ARGUMENT modulo 16;", this::lowOfArgument);
        doc.sentence("K the ARGUMENT / 16 (0 .. 15).", this::highOfArgument);
    }

    private void troubles() {
        doc.sentence("TROUBLES: 0 ARITHMETIC, 1 INDEX, 2 NULL, 3 CAST, 4 STORE, 5 NEGATIVE, 6 MONITOR, 7 INTERRUPTED,"
                + " 8 STATE, 9 ARGUMENT, 10 OWN (with a number).", this::numbersOfTroubles);
        doc.sentence("A TROUBLE that comes up in an action goes out through the blocks it stands in,", this::goesOut);
        doc.sentence("the innermost first;", this::innermostFirst);
        doc.sentence("it ends the RUN if none stops it.", this::endsTheRun);
    }

    private void limitAndConstants() {
        doc.sentence("A RUN may do 400 STEPS;", this::fourHundredSteps);
        doc.sentence("the action that would be the next one is not done,", this::nextIsNotDone);
        doc.sentence("but ends the RUN as STOP does,", this::nextEndsAsStop);
        doc.sentence("DROP forgetting it too.", this::dropForgetsLimit);
        doc.sentence("The constants: DONE = 0: Done; the outcome of a RUN that ended without TROUBLE.", this::done);
        doc.sentence("REFUSED = -1: A number out of range.", this::refused);
        doc.sentence("FULL = -2: No room for an action.", this::full);
        doc.sentence("NOT_RUN = -3: The program has not been run since it was changed.", this::notRun);
    }

    private void sixPrograms() {
        CaseExecutor x = new CaseExecutor();
        for (int p = 0; p < PROGRAMS; p++) {
            x.add(p, ADD, v(p));
            x.add(p, NAME, 0);
        }
        for (int p : new int[] {-1, PROGRAMS}) {
            doc.due("add, " + p, x.add(p, ADD, 0), CaseExecutor.REFUSED);
            doc.due("clear, " + p, x.clear(p), CaseExecutor.REFUSED);
            doc.due("run, " + p, x.run(p, true), CaseExecutor.REFUSED);
            doc.due("told, " + p, x.told(p, 0), CaseExecutor.REFUSED);
            doc.due("cell, " + p, x.cell(p, 0), CaseExecutor.REFUSED);
        }
        for (int p : new int[] {0, PROGRAMS - 1}) {
            doc.due("run, " + p, x.run(p, true), CaseExecutor.DONE);
            doc.due("told, " + p, x.told(p, 1), 20 + p);
            doc.due("clear, " + p, x.clear(p), CaseExecutor.DONE);
        }
    }

    private void fourteenActions() {
        CaseExecutor x = new CaseExecutor();
        for (int p = 0; p < PROGRAMS; p++) {
            for (int i = 0; i < MOST_ACTIONS; i++) {
                doc.due("action " + i, x.add(p, ADD, v(1)), i);
            }
            doc.due("one more", x.add(p, ADD, v(1)), CaseExecutor.FULL);
            doc.due("actions", x.count(3 + p), 14);
            x.run(p, false);
            doc.due("all are done", x.told(p, 1), 14);
            doc.due("and no more", x.told(p, 2), 14);
        }
    }

    private void numberedFromZero() {
        CaseExecutor x = new CaseExecutor();
        doc.due("the first", x.add(3, DIVIDE, v(0)), 0);
        x.run(3, false);
        doc.due("TROUBLE in the first", x.told(3, 5), 0);
        x.clear(3);
        for (int i = 0; i < MOST_ACTIONS - 1; i++) {
            x.add(3, ADD, 0);
        }
        doc.due("the last", x.add(3, DIVIDE, v(0)), 13);
        x.run(3, false);
        doc.due("TROUBLE in the last", x.told(3, 5), 13);
    }

    private void opAndArgument() {
        CaseExecutor x = new CaseExecutor();
        for (int argument = 0; argument <= 255; argument++) {
            if (argument % MOST_ACTIONS == 0) {
                x.clear(0);
            }
            doc.due("argument " + argument, x.add(0, ADD, argument), argument % MOST_ACTIONS);
        }
        doc.due("argument -1", x.add(0, ADD, -1), CaseExecutor.REFUSED);
        doc.due("argument 256", x.add(0, ADD, 256), CaseExecutor.REFUSED);
        doc.told("each action has its own", actions(ADD, 0, ADD, 255, MULTIPLY, 102, ADD, 100), 0, 110, 4);
    }

    private void noActionAtFirst() {
        CaseExecutor x = new CaseExecutor();
        for (int p = 0; p < PROGRAMS; p++) {
            doc.due("actions of " + p, x.count(3 + p), 0);
            doc.due("a RUN of none", x.run(p, false), CaseExecutor.DONE);
            doc.due("no STEP", x.told(p, 2), 0);
        }
    }

    private void accumulatorAtFirst() {
        doc.told("none", actions(), 0, 0);
        doc.told("0 plus 7, in each RUN", actions(ADD, v(7)), 0, 7);
        doc.told("0 times 7", actions(MULTIPLY, v(7)), 0, 0);
        CaseExecutor x = with(0, ADD, v(7));
        x.run(0, false);
        x.run(1, false);
        doc.due("of another program", x.told(1, 1), 0);
    }

    private void accumulatorWraps() {
        doc.told("by MULTIPLY", least(), 0, LEAST);
        doc.told("by ADD, down", joined(least(), actions(ADD, v(-1))), 0, MOST);
        doc.told("by ADD, up", joined(least(), actions(ADD, v(-100), ADD, v(100))), 0, LEAST);
        doc.told("by ADD, past the most", joined(least(), actions(ADD, v(-1), ADD, v(155))), 0, LEAST + 154);
        doc.told("by MULTIPLY, to 0", joined(least(), actions(MULTIPLY, v(2))), 0, 0);
        doc.told("by MULTIPLY, the least by -1", joined(least(), actions(MULTIPLY, v(-1))), 0, LEAST);
        doc.told("by MULTIPLY, of many bits", actions(ADD, v(155), MULTIPLY, v(155), MULTIPLY, v(155), MULTIPLY, v(155),
                MULTIPLY, v(155)), 0, 155 * 155 * 155 * 155 * 155);
        doc.told("by DIVIDE", joined(least(), actions(DIVIDE, v(-1))), 0, LEAST);
        doc.told("by FINALLY", joined(least(), actions(FINALLY, 0)), 0, LEAST);
        CaseExecutor x = doc.told("kept", joined(least(), actions(KEEP, v(0), ADD, v(-1), KEEP, v(1))), 0, MOST);
        doc.due("the least in a cell", x.cell(0, 0), LEAST);
        doc.due("the most in a cell", x.cell(0, 1), MOST);
    }

    private void eightCells() {
        for (int i = 0; i < 8; i++) {
            CaseExecutor x = with(0, LOAD, v(i), ADD, v(1), KEEP, v(i));
            doc.due("cell " + i + " is there", x.run(0, false), CaseExecutor.DONE);
            doc.due("cell " + i, x.cell(0, i), 1);
            x.run(0, true);
            doc.due("cell " + i + ", 0 at first again", x.cell(0, i), 1);
            x.clear(0);
            x.run(0, false);
            doc.due("cell " + i + " of a RUN of nothing", x.cell(0, i), 0);
        }
        doc.told("no cell 8", actions(LOAD, v(8)), 101);
        doc.due("no cell 8 at the end", with(0).cell(0, 8), CaseExecutor.REFUSED);
    }

    private void countsAtFirst() {
        doc.told("none", actions(), 0, 0, 0, 0, 0);
        // told runs it three times: each RUN counts anew
        doc.told("one of each", actions(FINALLY, 0, CATCH, kn(0, 1), DIVIDE, v(0)), 0, 1000, 3, 1, 1);
        CaseExecutor x = used();
        x.clear(0);
        x.run(0, false);
        doc.due("STEPS", x.told(0, 2), 0);
        doc.due("FINALS", x.told(0, 3), 0);
        doc.due("CATCHES", x.told(0, 4), 0);
    }

    private void markAtFirst() {
        doc.told("set at the end, looked at in the next RUN", actions(LOOK, 0, INTERRUPT, 0), 0, 0, 2, 0, 0, -1, -1, 1);
        doc.told("set at the end, slept in the next RUN", actions(SLEEP, 0, INTERRUPT, 0), 0, 0, 2, 0, 0, -1, -1, 1);
        CaseExecutor x = with(0, INTERRUPT, 0);
        put(x, 1, LOOK, 0);
        x.run(0, false);
        x.run(1, false);
        doc.due("of another program", x.told(1, 1), 0);
        x.runAll(3);
        doc.due("of another program at the same time", x.told(1, 1), 0);
        doc.holds("the caller is not interrupted", !Thread.interrupted());
        Thread.currentThread().interrupt();
        x.run(1, false);
        boolean stillMarked = Thread.interrupted();
        doc.due("of an interrupted caller", x.told(1, 1), 0);
        doc.holds("the caller's own mark stays", stillMarked);
    }

    private void monitorsOfItsOwn() {
        CaseExecutor zero = doc.told("0 and not 1", actions(HOLD, kn(0, 3), HELD, kn(0, 0), KEEP, v(0), HELD, kn(1, 0)), 0, 0);
        doc.due("0 was held", zero.cell(0, 0), 1);
        CaseExecutor one = doc.told("1 and not 0", actions(HOLD, kn(1, 3), HELD, kn(1, 0), KEEP, v(0), HELD, kn(0, 0)), 0, 0);
        doc.due("1 was held", one.cell(0, 0), 1);
        doc.told("not held at first, in each RUN", actions(HELD, kn(0, 0), KEEP, v(0), HELD, kn(1, 0), HOLD, kn(0, 2),
                HOLD, kn(1, 1), DIVIDE, v(0)), 100, 0);
        CaseExecutor x = new CaseExecutor();
        for (int p = 0; p < PROGRAMS; p++) {
            put(x, p, HELD, 0, KEEP, v(0), HOLD, kn(0, 3), HELD, 0, KEEP, v(1), THROW, kn(8, 0));
        }
        doc.due("all hold it", x.runAll(63), 6);
        for (int p = 0; p < PROGRAMS; p++) {
            doc.due("not held by " + p + " before", x.cell(p, 0), 0);
            doc.due("held by " + p, x.cell(p, 1), 1);
        }
    }

    private void inOrder() {
        doc.told("ADD, MULTIPLY, ADD", actions(ADD, v(2), MULTIPLY, v(3), ADD, v(1)), 0, 7, 3);
        doc.told("MULTIPLY, ADD, ADD", actions(MULTIPLY, v(3), ADD, v(1), ADD, v(2)), 0, 3, 3);
        CaseExecutor x = new CaseExecutor();
        int due = 0;
        for (int i = 0; i < MOST_ACTIONS; i++) {
            x.add(0, i % 2 == 0 ? ADD : MULTIPLY, v(i + 2));
            due = i % 2 == 0 ? due + i + 2 : due * (i + 2);
        }
        x.run(0, true);
        doc.due("fourteen", x.told(0, 1), due);
    }

    private void begunIsAStep() {
        doc.told("none", actions(), 0, 0, 0);
        doc.told("one with TROUBLE", actions(DIVIDE, v(0), ADD, 0), 100, 0, 1);
        doc.told("STOP", actions(STOP, 0, ADD, 0), 0, 0, 1);
        doc.told("one that does nothing", actions(THROW, kn(11, 0), THROW, kn(0, 0)), 0, 0, 2);
        doc.told("one with a block, and those in it", actions(FINALLY, 2, ADD, v(1), ADD, v(1)), 0, -2, 3);
        doc.told("one with an empty block", actions(DROP, 0), 0, 0, 1);
        doc.told("those in it each time", actions(REPEAT, kn(15, 2), ADD, v(1), ADD, v(1)), 0, 30, 31);
        doc.told("none of them no times", actions(REPEAT, kn(0, 2), ADD, v(1), ADD, v(1)), 0, 0, 1);
        doc.told("not those behind a TROUBLE in a block", actions(CATCH, kn(0, 3), DIVIDE, v(0), ADD, 0, ADD, 0), 0, 1000, 2);
    }

    private void nextNActions() {
        for (int n = 0; n < 14; n++) {
            CaseExecutor x = with(0, REPEAT, kn(2, n));
            for (int i = 1; i < MOST_ACTIONS; i++) {
                x.add(0, ADD, v(1));
            }
            x.run(0, false);
            doc.due("N " + n + ": done twice", x.told(0, 1), 13 + n);
        }
        doc.told("CATCH, in its block", actions(CATCH, kn(0, 2), ADD, v(1), DIVIDE, v(0)), 0, 1000, 3);
        doc.told("CATCH, behind its block", actions(CATCH, kn(0, 2), ADD, v(1), ADD, v(1), DIVIDE, v(0)), 100, 2, 4);
        doc.told("FINALLY", actions(FINALLY, 2, ADD, v(3), ADD, v(4), ADD, v(50)), 0, 43, 4);
        doc.told("DROP, in its block", actions(DROP, 2, ADD, v(1), STOP, 0, ADD, v(50)), 0, 51, 4);
        doc.told("DROP, behind its block", actions(DROP, 2, ADD, v(1), ADD, v(1), STOP, 0, ADD, v(50)), 0, 2, 4);
        doc.told("HOLD, in its block", actions(HOLD, 2, ADD, v(1), HELD, 0), 0, 1, 3);
        doc.told("HOLD, behind its block", actions(HOLD, 2, ADD, v(1), ADD, v(1), HELD, 0), 0, 0, 4);
        for (int op = 0; op <= NAME; op++) {
            if (op < CATCH || op > REPEAT) {
                // V 1, K 6 and N 5: no TROUBLE comes up in any of them
                CaseExecutor x = with(0, HOLD, kn(0, 15), op, kn(6, 5), KEEP, v(0), KEEP, v(0));
                x.run(0, false);
                doc.due("OP " + op + " has none", x.told(0, 2), op == STOP ? 2 : 4);
            }
        }
    }

    private void asManyAsThereAre() {
        doc.told("15 of 1", actions(FINALLY, 15, ADD, v(1)), 0, -1, 2, 1);
        doc.told("15 of none", actions(ADD, v(5), FINALLY, 15), 0, -5, 2, 1);
        doc.told("1 of none, repeated", actions(ADD, v(5), REPEAT, kn(15, 1)), 0, 5, 2);
        doc.told("15 of 2 in a block", actions(REPEAT, kn(2, 3), FINALLY, 15, ADD, v(1), ADD, v(1), ADD, v(100)), 0, 100, 8, 2);
        doc.told("15 of none in a block", actions(REPEAT, kn(3, 1), DROP, 15, ADD, v(1)), 0, 1, 5, 3);
        doc.told("in a block that is cut off itself", actions(FINALLY, 2, FINALLY, 15, FINALLY, 15, ADD, v(3)), 0, 3, 4, 3);
        doc.told("an inner one may have fewer", actions(FINALLY, 3, FINALLY, 1, ADD, v(3), ADD, v(1), ADD, v(10)), 0, 12, 5, 2);
        int[] deep = new int[2 * MOST_ACTIONS];
        for (int i = 0; i < MOST_ACTIONS; i++) {
            deep[2 * i] = i < MOST_ACTIONS - 1 ? FINALLY : ADD;
            deep[2 * i + 1] = i < MOST_ACTIONS - 1 ? 15 : v(1);
        }
        doc.told("thirteen deep", deep, 0, -1, 14, 13);
        deep[2 * MOST_ACTIONS - 2] = FINALLY;
        doc.told("fourteen deep", deep, 0, 0, 14, 14);
    }

    private void whatIsBehindFollows() {
        for (int op = CATCH; op <= REPEAT; op++) {
            int negated = op == FINALLY ? -1 : 1;
            doc.told("once each, OP " + op, actions(op, kn(1, 2), ADD, v(3), ADD, v(4), ADD, v(50), KEEP, v(0)),
                    0, 50 + negated * 7, 5);
            doc.told("behind an empty block, OP " + op, actions(ADD, v(7), op, kn(1, 0), ADD, v(50)), 0, 50 + negated * 7, 3);
            doc.told("in a block, OP " + op, actions(HOLD, 3, op, kn(1, 1), ADD, v(7), ADD, v(50), ADD, v(1)),
                    0, 51 + negated * 7, 5);
        }
        doc.told("a block that is not done is passed by", actions(REPEAT, kn(0, 2), ADD, v(3), ADD, v(4), ADD, v(50)), 0, 50, 2);
    }

    private void valueOfArgument() {
        for (int argument : new int[] {0, 1, 99, 100, 101, 127, 128, 200, 254, 255}) {
            doc.told("argument " + argument, actions(ADD, argument), 0, argument - 100);
        }
    }

    private void lowOfArgument() {
        for (int argument = 7 * 16; argument <= 255; argument++) {
            CaseExecutor x = with(0, BREAK, argument);
            x.run(0, false);
            doc.due("argument " + argument, x.told(0, 1), argument % 16);
        }
        for (int n = 0; n < 16; n++) {
            doc.told("N " + n, actions(THROW, kn(10, n)), 110, 0, 1, 0, 0, 0, n);
        }
    }

    private void highOfArgument() {
        for (int k = 0; k < 16; k++) {
            doc.told("K " + k + ", N 1", actions(REPEAT, kn(k, 1), ADD, v(1)), 0, k);
            doc.told("K " + k + ", N 15", actions(REPEAT, kn(k, 15), ADD, v(1)), 0, k);
        }
    }

    private void numbersOfTroubles() {
        doc.told("ARITHMETIC", actions(DIVIDE, v(0)), 100, 0, 1, 0, 0, 0, -1);
        doc.told("INDEX", actions(LOAD, v(8)), 101, 0, 1, 0, 0, 0, -1);
        doc.told("NULL", actions(BREAK, kn(2, 0)), 102, 0, 1, 0, 0, 0, -1);
        doc.told("CAST", actions(BREAK, kn(3, 0)), 103, 0, 1, 0, 0, 0, -1);
        doc.told("STORE", actions(BREAK, kn(4, 0)), 104, 0, 1, 0, 0, 0, -1);
        doc.told("NEGATIVE", actions(BREAK, kn(5, 0)), 105, 0, 1, 0, 0, 0, -1);
        doc.told("MONITOR", actions(NOTIFY, 0), 106, 0, 1, 0, 0, 0, -1);
        doc.told("INTERRUPTED", actions(INTERRUPT, 0, SLEEP, 0), 107, 0, 2, 0, 0, 1, -1);
        doc.told("STATE", actions(THROW, kn(8, 0)), 108, 0, 1, 0, 0, 0, -1);
        doc.told("ARGUMENT", actions(THROW, kn(9, 0)), 109, 0, 1, 0, 0, 0, -1);
        doc.told("OWN, the least number", actions(THROW, kn(10, 0)), 110, 0, 1, 0, 0, 0, 0);
        doc.told("OWN, the greatest number", actions(THROW, kn(10, 15)), 110, 0, 1, 0, 0, 0, 15);
    }

    private void goesOut() {
        doc.told("through each kind", actions(FINALLY, 5, HOLD, 4, REPEAT, kn(3, 3), CATCH, kn(1, 2), ADD, v(4),
                DIVIDE, v(0), ADD, v(50)), 100, -4, 6, 1, 0, 5);
        doc.told("the rest of each block is not done", actions(CATCH, kn(0, 6), FINALLY, 4, HOLD, 2, DIVIDE, v(0), ADD, v(1),
                ADD, v(1), ADD, v(1), ADD, v(50)), 0, 1050, 5, 1, 1, -1);
        doc.told("not through a block behind it", actions(DIVIDE, v(0), CATCH, kn(15, 1), ADD, 0), 100, 0, 1, 0, 0, 0);
        doc.told("not through a block before it", actions(CATCH, kn(15, 1), ADD, v(1), DIVIDE, v(0)), 100, 1, 3, 0, 0, 2);
        doc.told("not through an empty block", actions(CATCH, kn(15, 0), DIVIDE, v(0)), 100, 0, 2, 0, 0, 1);
    }

    private void innermostFirst() {
        doc.told("the inner CATCH", actions(CATCH, kn(15, 3), CATCH, kn(0, 1), DIVIDE, v(0), KEEP, v(0)), 0, 1000, 4, 0, 1);
        doc.told("the outer CATCH, if the inner doesn't take it", actions(CATCH, kn(0, 3), CATCH, kn(1, 1), DIVIDE, v(0),
                KEEP, v(0)), 0, 1000, 3, 0, 1);
        doc.told("the inner lets go on what the outer takes", actions(CATCH, kn(10, 2), CATCH, kn(14, 1), DIVIDE, v(0)),
                0, 1174, 3, 0, 2);
        doc.told("FINALLY inside CATCH", actions(CATCH, kn(0, 2), FINALLY, 1, DIVIDE, v(0)), 0, 1000, 3, 1, 1);
        doc.told("CATCH inside FINALLY", actions(FINALLY, 2, CATCH, kn(0, 1), DIVIDE, v(0)), 0, -1000, 3, 1, 1);
        doc.told("DROP inside CATCH", actions(CATCH, kn(0, 2), DROP, 1, DIVIDE, v(0)), 0, 0, 3, 1, 0);
        doc.told("CATCH inside DROP", actions(DROP, 2, CATCH, kn(0, 1), DIVIDE, v(0)), 0, 1000, 3, 1, 1);
    }

    private void endsTheRun() {
        for (int t = 0; t <= 10; t++) {
            int[] then = actions(ADD, v(1), COUNT, v(1));
            CaseExecutor x = doc.told("TROUBLE " + t, joined(actions(ADD, v(5)), trouble(t), then), 100 + t, 5, 2, 0, 0, 1);
            doc.due("TROUBLE " + t + ", nothing behind it is done", x.counter(), 0);
            int other = t == 0 ? 1 : 0;
            doc.told("TROUBLE " + t + ", not taken", joined(actions(CATCH, kn(other, 1)), trouble(t), then),
                    100 + t, 0, 2, 0, 0, 1);
        }
    }

    /** Twelve actions of 241 + 141 + 13 + 4 STEPS, of which 225 + 126 + 12 + 4 add 1; then up to two more. */
    private static int[] steps399(int... then) {
        return joined(actions(REPEAT, kn(15, 2), REPEAT, kn(15, 1), ADD, v(1), REPEAT, kn(14, 2), REPEAT, kn(9, 1), ADD, v(1),
                REPEAT, kn(12, 1), ADD, v(1)), actions(ADD, v(1), ADD, v(1), ADD, v(1), ADD, v(1)), then);
    }

    private void fourHundredSteps() {
        doc.told("399", steps399(), 0, 367, 399);
        doc.told("the 400th is done", steps399(ADD, v(1)), 0, 368, 400);
        doc.told("the 400th is done, and one is behind it", steps399(ADD, v(1), ADD, v(1)), 0, 368, 400);
        doc.told("TROUBLE in the 400th", steps399(THROW, kn(10, 6), ADD, v(1)), 110, 367, 400, 0, 0, 12, 6);
        doc.told("the 400th has a block of none", steps399(FINALLY, 0), 0, -367, 400, 1);
        doc.told("each RUN anew", actions(REPEAT, kn(15, 3), REPEAT, kn(15, 2), ADD, v(1), COUNT, v(1)), 0, 193, 400);
    }

    private void nextIsNotDone() {
        doc.told("ADD", steps399(ADD, v(1), ADD, v(100)), 0, 368, 400);
        CaseExecutor x = doc.told("COUNT", steps399(COUNT, v(1), COUNT, v(100)), 0, 367, 400);
        doc.due("counted in three RUNS", x.counter(), 3);
        doc.told("INTERRUPT", steps399(ADD, v(0), INTERRUPT, 0), 0, 367, 400, 0, 0, -1, -1, 0);
        doc.told("a TROUBLE", steps399(ADD, v(0), THROW, kn(8, 0)), 0, 367, 400, 0, 0, -1, -1);
        doc.told("FINALLY of none", steps399(ADD, v(0), FINALLY, 0), 0, 367, 400, 0);
        doc.told("DROP of none", steps399(ADD, v(0), DROP, 0), 0, 367, 400, 0);
        doc.told("the first of a block", steps399(REPEAT, kn(15, 1), ADD, v(1)), 0, 367, 400);
    }

    private void nextEndsAsStop() {
        doc.told("without TROUBLE", steps399(ADD, v(1), ADD, v(1)), 0, 368, 400, 0, 0, -1, -1);
        doc.told("CATCH takes no STOP", steps399(CATCH, kn(15, 1), THROW, kn(8, 0)), 0, 367, 400, 0, 0, -1, -1);
        doc.told("FINALLY around it does its own", steps399(FINALLY, 1, ADD, v(1)), 0, -367, 400, 1, 0, -1, -1);
        // 3 + 12 * 31 + 1 + 12 * 2 = 400
        doc.told("two FINALLY around it", actions(FINALLY, 5, FINALLY, 4, REPEAT, kn(15, 3), REPEAT, kn(15, 2), ADD, v(1),
                COUNT, v(1), ADD, v(100)), 0, 192, 400, 2);
        // 2 + 12 * 31 + 1 + 12 * 2 + 1 = 400: after an even number of negatives of 1 or 0, one ADD
        doc.told("all REPEAT around it end", actions(REPEAT, kn(15, 4), REPEAT, kn(15, 3), REPEAT, kn(15, 2), ADD, v(1),
                FINALLY, 0), 0, 1, 400, 192);
    }

    private void dropForgetsLimit() {
        doc.told("counted by DROP", steps399(DROP, 1, ADD, v(1)), 0, 367, 400, 1, 0, -1, -1);
        doc.told("what is behind the block is not done", actions(DROP, 4, REPEAT, kn(15, 3), REPEAT, kn(15, 2), ADD, v(1),
                COUNT, v(1), ADD, v(100), FINALLY, 0), 0, 193, 400, 1, 0, -1, -1);
        doc.told("by each DROP around it", actions(DROP, 6, DROP, 5, DROP, 4, REPEAT, kn(15, 3), REPEAT, kn(15, 2), ADD, v(1),
                COUNT, v(1), ADD, v(100)), 0, 192, 400, 3, 0, -1, -1);
        // 1 + 8 * 46 + 1 + 10 * 3 = 400
        doc.told("a DROP that REPEAT would do again", actions(REPEAT, kn(15, 4), REPEAT, kn(15, 3), DROP, 2, ADD, v(1),
                DIVIDE, v(0)), 0, 130, 400, 130, 0, -1, -1);
        // 2 + 8 * 46 + 1 + 9 * 3 + 2 = 400
        doc.told("in a DROP that REPEAT would do again", actions(ADD, v(0), REPEAT, kn(15, 4), REPEAT, kn(15, 3), DROP, 2,
                ADD, v(1), DIVIDE, v(0)), 0, 130, 400, 130, 0, -1, -1);
        doc.told("FINALLY around DROP", actions(FINALLY, 6, DROP, 4, REPEAT, kn(15, 3), REPEAT, kn(15, 2), ADD, v(1),
                COUNT, v(1), ADD, v(100)), 0, -192, 400, 2, 0, -1, -1);
    }

    private void done() {
        doc.due("DONE", CaseExecutor.DONE, 0);
        doc.told("nothing done", actions(), CaseExecutor.DONE);
        doc.told("STOP", actions(STOP, 0), CaseExecutor.DONE);
        doc.told("caught", actions(CATCH, kn(15, 1), THROW, kn(8, 0)), CaseExecutor.DONE);
        doc.due("clear", new CaseExecutor().clear(0), CaseExecutor.DONE);
    }

    private void refused() {
        doc.due("REFUSED", CaseExecutor.REFUSED, -1);
        CaseExecutor x = new CaseExecutor();
        doc.due("add", x.add(6, 0, 0), CaseExecutor.REFUSED);
        doc.due("clear", x.clear(6), CaseExecutor.REFUSED);
        doc.due("run", x.run(6, false), CaseExecutor.REFUSED);
        doc.due("runAll", x.runAll(64), CaseExecutor.REFUSED);
        doc.due("told", x.told(0, 8), CaseExecutor.REFUSED);
        doc.due("cell", x.cell(0, 8), CaseExecutor.REFUSED);
        doc.due("count", x.count(9), CaseExecutor.REFUSED);
    }

    private void full() {
        doc.due("FULL", CaseExecutor.FULL, -2);
        CaseExecutor x = new CaseExecutor();
        for (int i = 0; i < MOST_ACTIONS; i++) {
            doc.due("room", x.add(0, ADD, 0), i);
        }
        doc.due("no room", x.add(0, ADD, 0), CaseExecutor.FULL);
    }

    private void notRun() {
        doc.due("NOT_RUN", CaseExecutor.NOT_RUN, -3);
        CaseExecutor x = new CaseExecutor();
        doc.due("never", x.told(0, 0), CaseExecutor.NOT_RUN);
        x.run(0, false);
        doc.due("run", x.told(0, 0), CaseExecutor.DONE);
        x.add(0, ADD, 0);
        doc.due("changed by add", x.told(0, 0), CaseExecutor.NOT_RUN);
        x.runAll(1);
        doc.due("run by runAll", x.told(0, 0), CaseExecutor.DONE);
        x.add(0, ADD, 256);
        doc.due("not changed by a refused add", x.told(0, 0), CaseExecutor.DONE);
        x.clear(0);
        doc.due("changed by clear", x.told(0, 0), CaseExecutor.NOT_RUN);
        for (int i = 0; i < MOST_ACTIONS; i++) {
            x.add(0, ADD, 0);
        }
        x.run(0, true);
        x.add(0, ADD, 0);
        doc.due("not changed by an add that found no room", x.told(0, 0), CaseExecutor.DONE);
    }
}
