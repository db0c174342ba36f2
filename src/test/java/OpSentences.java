/** The OPS 0 to 21 of 'Terms', sentence by sentence. */
final class OpSentences extends Cases {
    private final Sentences doc;

    OpSentences(Sentences itsDoc) {
        doc = itsDoc;
    }

    void all() {
        doc.section("Terms");
        numbersAndCells();
        breakAndThrow();
        marks();
        catches();
        otherBlocks();
        monitors();
        countStopAndName();
    }

    private void numbersAndCells() {
        doc.sentence("0 ADD: V to the ACCUMULATOR.", this::add);
        doc.sentence("1 MULTIPLY it by V.", this::multiply);
        doc.sentence("2 DIVIDE it by V (towards zero):", this::divide);
        doc.sentence("V is 0: ARITHMETIC.", this::divideByZero);
        doc.sentence("3 REMAINDER of that instead.", this::remainder);
        doc.sentence("4 LOAD: the ACCUMULATOR becomes cell V;", this::load);
        doc.sentence("5 KEEP: cell V becomes it:", this::keep);
        doc.sentence("V isn't 0 .. 7: INDEX.", this::noSuchCell);
    }

    private void breakAndThrow() {
        doc.sentence("6 BREAK: the TROUBLE K 2 to 5 by the machine itself:", this::breakTwoToFive);
        doc.sentence("2 a null is asked for its length;", () -> breaks(2));
        doc.sentence("3 a text is cast to a number's box;", () -> breaks(3));
        doc.sentence("4 a number's box is stored into an array of texts;", () -> breaks(4));
        doc.sentence("5 an array with a length of -1 less N is made.", () -> breaks(5));
        doc.sentence("K 0 and 1: dividing N by 0, and cell 8 + N of the CELLS.", this::breakZeroAndOne);
        doc.sentence("Other K: no TROUBLE, the ACCUMULATOR becomes the length of an array of N booleans.", this::breakNothing);
        doc.sentence("7 THROW: K 8 STATE,", () -> throwsTrouble(8));
        doc.sentence("K 9 ARGUMENT,", () -> throwsTrouble(9));
        doc.sentence("K 10 OWN with the number N,", this::throwOwn);
        doc.sentence("K 7 INTERRUPTED;", this::throwInterrupted);
        doc.sentence("for other K nothing.", this::throwNothing);
    }

    private void marks() {
        doc.sentence("8 INTERRUPT: the mark is set.", this::interrupt);
        doc.sentence("9 LOOK: the ACCUMULATOR becomes 1 if the mark is set, else 0; it is set no more.", this::look);
    }

    private void catches() {
        doc.sentence("10 CATCH: the block; a TROUBLE out of it that K takes stops: a CATCH is counted,", this::catchStops);
        doc.sentence("and the ACCUMULATOR becomes 1000 + 16 * its number + (for OWN) the number it has.", this::catchNumber);
        doc.sentence("K 0 .. 10 takes that TROUBLE;", this::catchOne);
        doc.sentence("11 takes 0 to 6, 8 and 9;", () -> takes(11, 0, 1, 2, 3, 4, 5, 6, 8, 9));
        doc.sentence("12 takes 1 and 9;", () -> takes(12, 1, 9));
        doc.sentence("13 takes 7 and 10;", () -> takes(13, 7, 10));
        doc.sentence("14 takes what 11 takes, but lets it go on after counting, as a new OWN with the number 14", this::letsGoOn);
        doc.sentence("(the ACCUMULATOR becoming as said);", this::letsGoOnNumber);
        doc.sentence("15 takes all.", () -> takes(15, 0, 1, 2, 3, 4, 5, 6, 7, 8, 9, 10));
    }

    private void otherBlocks() {
        doc.sentence("11 FINALLY: the block; however it ended, FINALS is counted and the ACCUMULATOR becomes its negative;",
                this::finallyNegative);
        doc.sentence("then it goes on as it would have.", this::finallyGoesOn);
        doc.sentence("12 DROP: the block; however it ended, even by STOP, that is forgotten,", this::dropForgets);
        doc.sentence("that is forgotten, FINALS is counted and what is behind the block follows.", this::dropCounts);
        doc.sentence("13 HOLD: the block, holding monitor K modulo 2", this::holds);
        doc.sentence("(which may be held already).", this::holdsAgain);
        doc.sentence("It is let go however the block ends.", this::letsGo);
        doc.sentence("14 REPEAT: the block, K times (0 to 15);", this::repeats);
        doc.sentence("STOP and TROUBLES end that.", this::repeatEnds);
    }

    private void monitors() {
        doc.sentence("15 NOTIFY: monitor K modulo 2 is not held by this RUN: MONITOR. Else nothing.", this::notifies);
        doc.sentence("16 WAIT for monitor K modulo 2, a thousandth of a second at most: not held: MONITOR;", this::waitsNotHeld);
        doc.sentence("else the mark is set: INTERRUPTED, and it is set no more; else nothing.", this::waits);
        doc.sentence("17 SLEEP, no time: the mark is set: INTERRUPTED, and it is set no more.", this::sleeps);
        doc.sentence("18 HELD: the ACCUMULATOR becomes 1 if monitor K modulo 2 is held by this RUN, else 0.", this::held);
    }

    private void countStopAndName() {
        doc.sentence("19 COUNT: V is added to THE COUNTER, which all RUNS share (0 at first, a long).", this::counts);
        doc.sentence("20 STOP: the RUN ends without TROUBLE", this::stops);
        doc.sentence("(FINALLY and HOLD around it still do theirs).", this::stopsThroughBlocks);
        doc.sentence("21 NAME: the ACCUMULATOR becomes 10 for a RUN on the spot, else 20 plus the number of its program.",
                this::names);
    }

    // OPS 0 to 5

    private void add() {
        doc.told("the least V", actions(ADD, v(3), ADD, v(-100)), 0, -97, 2);
        doc.told("V 0", actions(ADD, v(3), ADD, v(0)), 0, 3, 2);
        doc.told("the greatest V", actions(ADD, v(3), ADD, v(155)), 0, 158, 2);
    }

    private void multiply() {
        doc.told("the least V", actions(ADD, v(3), MULTIPLY, v(-100)), 0, -300, 2);
        doc.told("V 0", actions(ADD, v(3), MULTIPLY, v(0)), 0, 0, 2);
        doc.told("the greatest V", actions(ADD, v(-3), MULTIPLY, v(155)), 0, -465, 2);
    }

    private void divide() {
        doc.told("7 by 2", actions(ADD, v(7), DIVIDE, v(2)), 0, 3);
        doc.told("-7 by 2", actions(ADD, v(-7), DIVIDE, v(2)), 0, -3);
        doc.told("7 by -2", actions(ADD, v(7), DIVIDE, v(-2)), 0, -3);
        doc.told("-7 by -2", actions(ADD, v(-7), DIVIDE, v(-2)), 0, 3);
        doc.told("-1 by 155", actions(ADD, v(-1), DIVIDE, v(155)), 0, 0);
        doc.told("by 1", actions(ADD, v(-7), DIVIDE, v(1)), 0, -7);
        doc.told("by -1", actions(ADD, v(-7), DIVIDE, v(-1)), 0, 7);
        doc.told("0 by the least V", actions(DIVIDE, v(-100)), 0, 0);
        doc.told("the least by -1 wraps", joined(least(), actions(DIVIDE, v(-1))), 0, LEAST);
        doc.told("the least by 1", joined(least(), actions(DIVIDE, v(1))), 0, LEAST);
    }

    private void divideByZero() {
        CaseExecutor x = doc.told("7 by 0", actions(ADD, v(7), DIVIDE, v(0), KEEP, v(0)), 100, 7, 2, 0, 0, 1, -1);
        doc.due("nothing behind it is done", x.cell(0, 0), 0);
        doc.told("0 by 0", actions(DIVIDE, v(0)), 100, 0, 1, 0, 0, 0, -1);
        doc.told("V 1 is none", actions(ADD, v(7), DIVIDE, v(1)), 0, 7);
        doc.told("V -1 is none", actions(ADD, v(7), DIVIDE, v(-1)), 0, -7);
        doc.told("ARGUMENT 0 is none", actions(ADD, v(-100), DIVIDE, 0), 0, 1);
    }

    private void remainder() {
        doc.told("7 by 2", actions(ADD, v(7), REMAINDER, v(2)), 0, 1);
        doc.told("-7 by 2", actions(ADD, v(-7), REMAINDER, v(2)), 0, -1);
        doc.told("7 by -2", actions(ADD, v(7), REMAINDER, v(-2)), 0, 1);
        doc.told("-7 by -3", actions(ADD, v(-7), REMAINDER, v(-3)), 0, -1);
        doc.told("of less than V", actions(ADD, v(-7), REMAINDER, v(155)), 0, -7);
        doc.told("by 1", actions(ADD, v(7), REMAINDER, v(1)), 0, 0);
        doc.told("the least by -1", joined(least(), actions(REMAINDER, v(-1))), 0, 0);
        doc.told("the least by 155", joined(least(), actions(REMAINDER, v(155))), 0, LEAST % 155);
        doc.told("by 0", actions(ADD, v(7), REMAINDER, v(0)), 100, 7, 2, 0, 0, 1, -1);
        doc.told("0 by 0", actions(REMAINDER, v(0)), 100, 0, 1, 0, 0, 0, -1);
    }

    private void load() {
        for (int i = 0; i < 8; i++) {
            CaseExecutor x = doc.told("cell " + i, actions(ADD, v(10 + i), KEEP, v(i), ADD, v(1), LOAD, v(i)), 0, 10 + i, 4);
            doc.due("cell " + i + " keeps it", x.cell(0, i), 10 + i);
            doc.told("another than cell " + i, actions(ADD, v(10 + i), KEEP, v(i), LOAD, v(7 - i)), 0, 0, 3);
        }
    }

    private void keep() {
        for (int i = 0; i < 8; i++) {
            CaseExecutor x = doc.told("into " + i, actions(ADD, v(-3), KEEP, v(i), ADD, v(1)), 0, -2, 3);
            for (int other = 0; other < 8; other++) {
                doc.due("kept in " + i + ", cell " + other, x.cell(0, other), other == i ? -3 : 0);
            }
            x = doc.told("into " + i + " twice", actions(ADD, v(-3), KEEP, v(i), ADD, v(1), KEEP, v(i)), 0, -2, 4);
            doc.due("the second one", x.cell(0, i), -2);
        }
    }

    private void noSuchCell() {
        for (int value : new int[] {-100, -1, 8, 155}) {
            doc.told("LOAD " + value, actions(ADD, v(5), LOAD, v(value)), 101, 5, 2, 0, 0, 1, -1);
            CaseExecutor x = doc.told("KEEP " + value, actions(ADD, v(5), KEEP, v(value)), 101, 5, 2, 0, 0, 1, -1);
            for (int i = 0; i < 8; i++) {
                doc.due("KEEP " + value + ", cell " + i, x.cell(0, i), 0);
            }
        }
        for (int value : new int[] {0, 7}) {
            doc.told("LOAD " + value, actions(ADD, v(5), LOAD, v(value)), 0, 0, 2);
            doc.told("KEEP " + value, actions(ADD, v(5), KEEP, v(value)), 0, 5, 2);
        }
    }

    // OPS 6 to 9

    private void breaks(int k) {
        for (int n = 0; n < 16; n++) {
            CaseExecutor x = doc.told("N " + n, actions(ADD, v(3), BREAK, kn(k, n), KEEP, v(0)), 100 + k, 3, 2, 0, 0, 1, -1, 0);
            doc.due("N " + n + ", nothing is kept", x.cell(0, 0), 0);
        }
    }

    private void breakTwoToFive() {
        for (int k = 2; k <= 5; k++) {
            doc.told("K " + k, actions(BREAK, kn(k, 0)), 100 + k, 0, 1, 0, 0, 0, -1);
        }
        doc.told("K 6 is none", actions(BREAK, kn(6, 0)), 0, 0, 1, 0, 0, -1, -1);
    }

    private void breakZeroAndOne() {
        breaks(0);
        breaks(1);
    }

    private void breakNothing() {
        for (int k = 6; k < 16; k++) {
            for (int n : new int[] {0, 1, 15}) {
                doc.told("K " + k + ", N " + n, actions(ADD, v(50), BREAK, kn(k, n)), 0, n, 2, 0, 0, -1, -1, 0);
            }
        }
    }

    private void throwsTrouble(int k) {
        for (int n : new int[] {0, 1, 15}) {
            doc.told("N " + n, actions(ADD, v(3), THROW, kn(k, n), ADD, v(1)), 100 + k, 3, 2, 0, 0, 1, -1, 0);
        }
    }

    private void throwOwn() {
        for (int n = 0; n < 16; n++) {
            doc.told("N " + n, actions(ADD, v(3), THROW, kn(10, n), ADD, v(1)), 110, 3, 2, 0, 0, 1, n, 0);
        }
    }

    private void throwInterrupted() {
        throwsTrouble(7);
        doc.told("the mark, set, stays", actions(INTERRUPT, 0, THROW, kn(7, 0)), 107, 0, 2, 0, 0, 1, -1, 1);
        doc.told("the mark, not set, stays", actions(THROW, kn(7, 0)), 107, 0, 1, 0, 0, 0, -1, 0);
    }

    private void throwNothing() {
        for (int k : new int[] {0, 1, 2, 3, 4, 5, 6, 11, 12, 13, 14, 15}) {
            for (int n : new int[] {0, 15}) {
                doc.told("K " + k + ", N " + n, actions(ADD, v(3), THROW, kn(k, n), ADD, v(1)), 0, 4, 3, 0, 0, -1, -1, 0);
            }
        }
    }

    private void interrupt() {
        doc.told("set", actions(ADD, v(3), INTERRUPT, 255), 0, 3, 2, 0, 0, -1, -1, 1);
        doc.told("set twice", actions(INTERRUPT, 0, INTERRUPT, 0, LOOK, 0), 0, 1, 3, 0, 0, -1, -1, 0);
    }

    private void look() {
        doc.told("set", actions(INTERRUPT, 0, ADD, v(7), LOOK, 0), 0, 1, 3, 0, 0, -1, -1, 0);
        doc.told("not set", actions(ADD, v(7), LOOK, 0), 0, 0, 2, 0, 0, -1, -1, 0);
        doc.told("set no more", actions(INTERRUPT, 0, LOOK, 0, LOOK, 0), 0, 0, 3, 0, 0, -1, -1, 0);
        doc.told("set no more for SLEEP", actions(INTERRUPT, 0, LOOK, 0, SLEEP, 0), 0, 1, 3, 0, 0, -1, -1, 0);
    }

    // OP 10

    private void catchStops() {
        doc.told("what is behind the block follows", actions(CATCH, kn(0, 2), DIVIDE, v(0), ADD, v(1), ADD, v(50)),
                0, 1050, 3, 0, 1, -1, -1);
        doc.told("no TROUBLE", actions(CATCH, kn(0, 1), ADD, v(1)), 0, 1, 2, 0, 0);
        doc.told("an empty block", actions(ADD, v(1), CATCH, kn(15, 0)), 0, 1, 2, 0, 0);
        doc.told("a STOP is no TROUBLE", actions(CATCH, kn(15, 1), STOP, 0, ADD, v(1)), 0, 0, 2, 0, 0);
        doc.told("not taken", actions(CATCH, kn(1, 1), DIVIDE, v(0), ADD, v(1)), 100, 0, 2, 0, 0, 1);
        doc.told("not one behind the block", actions(CATCH, kn(0, 1), ADD, v(1), DIVIDE, v(0)), 100, 1, 3, 0, 0, 2);
        doc.told("each one is counted", actions(REPEAT, kn(15, 2), CATCH, kn(0, 1), DIVIDE, v(0)), 0, 1000, 31, 0, 15);
    }

    private void catchNumber() {
        for (int t = 0; t < 10; t++) {
            doc.told("TROUBLE " + t, joined(actions(ADD, v(5), CATCH, kn(15, 1)), trouble(t)), 0, 1000 + 16 * t);
        }
        for (int n = 0; n < 16; n++) {
            doc.told("OWN " + n, actions(ADD, v(5), CATCH, kn(15, 1), THROW, kn(10, n)), 0, 1160 + n);
        }
        doc.told("no number after that of an OWN", actions(CATCH, kn(10, 1), THROW, kn(10, 7), CATCH, kn(8, 1), THROW, kn(8, 7)),
                0, 1128, 4, 0, 2);
    }

    private void catchOne() {
        for (int k = 0; k <= 10; k++) {
            takes(k, k);
        }
    }

    /** CATCH with this K stops these TROUBLES and no other one. */
    private void takes(int k, int... taken) {
        for (int t = 0; t <= 10; t++) {
            boolean isTaken = false;
            for (int one : taken) {
                isTaken = isTaken || one == t;
            }
            int[] program = joined(actions(ADD, v(3), CATCH, kn(k, 1)), trouble(t), actions(ADD, v(1)));
            int number = t == 10 ? 9 : 0;
            if (isTaken) {
                doc.told("K " + k + " takes " + t, program, 0, 1001 + 16 * t + number, 4, 0, 1, -1, -1);
            } else {
                doc.told("K " + k + " doesn't take " + t, program, 100 + t, 3, 3, 0, 0, 2, t == 10 ? 9 : -1);
            }
        }
    }

    private void letsGoOn() {
        for (int t = 0; t <= 10; t++) {
            int[] program = joined(actions(ADD, v(3), CATCH, kn(14, 1)), trouble(t), actions(ADD, v(1)));
            if (t == 7 || t == 10) {
                doc.told("doesn't take " + t, program, 100 + t, 3, 3, 0, 0, 2, t == 10 ? 9 : -1);
            } else {
                doc.told("takes " + t, program, 110, 1000 + 16 * t, 3, 0, 1, 1, 14);
            }
        }
        doc.told("no TROUBLE", actions(CATCH, kn(14, 1), ADD, v(1), ADD, v(1)), 0, 2, 3, 0, 0, -1, -1);
        doc.told("an OWN that 10 takes", actions(CATCH, kn(10, 2), CATCH, kn(14, 1), DIVIDE, v(0)), 0, 1174, 3, 0, 2, -1, -1);
        doc.told("an OWN that another 14 doesn't take", actions(CATCH, kn(14, 2), CATCH, kn(14, 1), DIVIDE, v(0)),
                110, 1000, 3, 0, 1, 1, 14);
        doc.told("an OWN that 0 doesn't take", actions(CATCH, kn(0, 2), CATCH, kn(14, 1), DIVIDE, v(0)),
                110, 1000, 3, 0, 1, 1, 14);
        doc.told("the rest of the outer block is not done", actions(CATCH, kn(13, 3), CATCH, kn(14, 1), DIVIDE, v(0), ADD, v(1)),
                0, 1174, 3, 0, 2);
    }

    private void letsGoOnNumber() {
        doc.told("ARITHMETIC", actions(CATCH, kn(14, 1), DIVIDE, v(0)), 110, 1000, 2, 0, 1);
        doc.told("ARGUMENT", actions(CATCH, kn(14, 1), THROW, kn(9, 3)), 110, 1144, 2, 0, 1);
        doc.told("seen outside", actions(DROP, 2, CATCH, kn(14, 1), BREAK, kn(5, 3), ADD, v(1)), 0, 1081, 4, 1, 1);
    }

    // OPS 11 to 14

    private void finallyNegative() {
        doc.told("ended in order", actions(FINALLY, 1, ADD, v(7)), 0, -7, 2, 1);
        doc.told("ended by TROUBLE", actions(FINALLY, 2, ADD, v(7), DIVIDE, v(0)), 100, -7, 3, 1);
        doc.told("ended by STOP", actions(FINALLY, 2, ADD, v(7), STOP, 0), 0, -7, 3, 1);
        doc.told("of none", actions(ADD, v(-7), FINALLY, 0), 0, 7, 2, 1);
        doc.told("of 0", actions(FINALLY, 0), 0, 0, 1, 1);
        doc.told("of the least", joined(least(), actions(FINALLY, 0)), 0, LEAST);
        doc.told("of the most", joined(least(), actions(ADD, v(-1), FINALLY, 0)), 0, LEAST + 1);
        doc.told("each of two", actions(FINALLY, 2, FINALLY, 1, ADD, v(7)), 0, 7, 3, 2);
    }

    private void finallyGoesOn() {
        doc.told("in order", actions(FINALLY, 1, ADD, v(7), ADD, v(1)), 0, -6, 3, 1, 0, -1, -1);
        doc.told("by TROUBLE", actions(FINALLY, 2, ADD, v(7), THROW, kn(10, 2), ADD, v(1)), 110, -7, 3, 1, 0, 2, 2);
        doc.told("by STOP", actions(FINALLY, 2, ADD, v(7), STOP, 0, ADD, v(1)), 0, -7, 3, 1, 0, -1, -1);
        doc.told("by what is let go on", actions(FINALLY, 2, CATCH, kn(14, 1), DIVIDE, v(0), ADD, v(1)), 110, -1000, 3, 1, 1, 1, 14);
    }

    private void dropForgets() {
        doc.told("TROUBLE", actions(DROP, 2, ADD, v(7), DIVIDE, v(0)), 0, 7, 3, 1, 0, -1, -1);
        doc.told("OWN", actions(DROP, 2, ADD, v(7), THROW, kn(10, 3)), 0, 7, 3, 1, 0, -1, -1);
        doc.told("STOP", actions(DROP, 2, ADD, v(7), STOP, 0, ADD, v(1)), 0, 8, 4, 1, 0, -1, -1);
        doc.told("what is let go on", actions(DROP, 2, CATCH, kn(14, 1), DIVIDE, v(0), ADD, v(1)), 0, 1001, 4, 1, 1, -1, -1);
        doc.told("what goes on through FINALLY", actions(DROP, 3, FINALLY, 2, ADD, v(7), STOP, 0, ADD, v(1)), 0, -6, 5, 2, 0);
        for (int t = 0; t <= 10; t++) {
            doc.told("TROUBLE " + t, joined(actions(CATCH, kn(15, 2), DROP, 1), trouble(t)), 0, 0, 3, 1, 0, -1, -1);
        }
        doc.told("not one behind it", actions(DROP, 1, STOP, 0, DIVIDE, v(0)), 100, 0, 3, 1, 0, 2, -1);
    }

    private void dropCounts() {
        doc.told("ended in order", actions(DROP, 1, ADD, v(7), ADD, v(1)), 0, 8, 3, 1);
        doc.told("ended by TROUBLE", actions(DROP, 2, DIVIDE, v(0), ADD, v(7), ADD, v(1)), 0, 1, 3, 1);
        doc.told("ended by STOP", actions(DROP, 2, STOP, 0, ADD, v(7), ADD, v(1)), 0, 1, 3, 1);
        doc.told("of none", actions(ADD, v(7), DROP, 0, ADD, v(1)), 0, 8, 3, 1);
        doc.told("each of two", actions(DROP, 2, DROP, 1, STOP, 0, ADD, v(1)), 0, 1, 4, 2);
        doc.told("again and again", actions(REPEAT, kn(15, 2), DROP, 1, STOP, 0), 0, 0, 31, 15);
    }

    private void holds() {
        for (int k = 0; k < 16; k++) {
            doc.told("K " + k, actions(HOLD, kn(k, 1), HELD, kn(k % 2, 0)), 0, 1, 2);
            doc.told("K " + k + ", not the other", actions(HOLD, kn(k, 1), HELD, kn(1 - k % 2, 0)), 0, 0, 2);
            doc.told("K " + k + ", not behind the block", actions(HOLD, kn(k, 1), ADD, v(5), HELD, kn(k % 2, 0)), 0, 0, 3);
        }
        doc.told("both", actions(HOLD, kn(0, 3), HOLD, kn(1, 2), NOTIFY, kn(0, 0), NOTIFY, kn(1, 0)), 0, 0, 4);
        doc.told("the ACCUMULATOR stays", actions(ADD, v(5), HOLD, kn(1, 0)), 0, 5, 2);
    }

    private void holdsAgain() {
        doc.told("held in the inner block", actions(HOLD, kn(0, 2), HOLD, kn(2, 1), HELD, 0), 0, 1, 3);
        doc.told("still held behind the inner block", actions(HOLD, kn(0, 3), HOLD, kn(0, 1), ADD, v(5), HELD, 0), 0, 1, 4);
        doc.told("not held behind the outer block", actions(HOLD, kn(0, 2), HOLD, kn(0, 1), ADD, v(5), HELD, 0), 0, 0, 4);
        int[] deep = new int[2 * MOST_ACTIONS];
        for (int i = 0; i < MOST_ACTIONS; i++) {
            deep[2 * i] = i < MOST_ACTIONS - 1 ? HOLD : NOTIFY;
            deep[2 * i + 1] = i < MOST_ACTIONS - 1 ? kn(1, 15) : kn(1, 0);
        }
        doc.told("thirteen times", deep, 0, 0, 14);
    }

    private void letsGo() {
        doc.told("in order", actions(ADD, v(5), HOLD, kn(0, 0), HELD, 0), 0, 0, 3);
        doc.told("by TROUBLE", actions(DROP, 3, HOLD, kn(1, 2), ADD, v(5), DIVIDE, v(0), HELD, kn(1, 0)), 0, 0, 5);
        doc.told("by STOP", actions(DROP, 3, HOLD, kn(1, 2), ADD, v(5), STOP, 0, HELD, kn(1, 0)), 0, 0, 5);
        doc.told("caught", actions(CATCH, kn(0, 2), HOLD, kn(1, 1), DIVIDE, v(0), NOTIFY, kn(1, 0)), 106, 1000, 4, 0, 1, 3);
        doc.told("once: the outer one is held still", actions(HOLD, kn(0, 4), DROP, 2, HOLD, kn(0, 1), STOP, 0, HELD, 0), 0, 1, 5);
        doc.told("both", actions(DROP, 3, HOLD, kn(0, 2), HOLD, kn(1, 1), STOP, 0, DROP, 1, NOTIFY, kn(0, 0), NOTIFY, kn(1, 0)),
                106, 0, 7, 2, 0, 6);
        doc.told("in each round", actions(REPEAT, kn(2, 4), HELD, 0, DROP, 2, HOLD, 1, STOP, 0), 0, 0, 9, 2);
    }

    private void repeats() {
        for (int k = 0; k < 16; k++) {
            doc.told("K " + k, actions(REPEAT, kn(k, 2), ADD, v(1), ADD, v(1), ADD, v(100)), 0, 100 + 2 * k, 2 + 2 * k);
            doc.told("K " + k + ", an empty block", actions(ADD, v(1), REPEAT, kn(k, 0)), 0, 1, 2);
        }
        doc.told("REPEAT in REPEAT", actions(REPEAT, kn(3, 2), REPEAT, kn(4, 1), ADD, v(1)), 0, 12, 16);
        doc.told("no times, whatever is in it", actions(REPEAT, kn(0, 2), STOP, 0, DIVIDE, v(0), ADD, v(1)), 0, 1, 2);
    }

    private void repeatEnds() {
        doc.told("STOP", actions(REPEAT, kn(5, 2), ADD, v(1), STOP, 0, ADD, v(50)), 0, 1, 3);
        doc.told("TROUBLE", actions(REPEAT, kn(5, 2), ADD, v(1), DIVIDE, v(0), ADD, v(50)), 100, 1, 3, 0, 0, 2);
        doc.told("STOP, the outer one", actions(REPEAT, kn(5, 3), REPEAT, kn(5, 2), ADD, v(1), STOP, 0), 0, 1, 4);
        doc.told("STOP, dropped outside", actions(DROP, 3, REPEAT, kn(5, 2), ADD, v(1), STOP, 0, ADD, v(50)), 0, 51, 5, 1);
        doc.told("TROUBLE, caught outside", actions(CATCH, kn(0, 3), REPEAT, kn(5, 2), ADD, v(1), DIVIDE, v(0), ADD, v(50)),
                0, 1050, 5, 0, 1);
        doc.told("not what is caught inside", actions(REPEAT, kn(5, 2), CATCH, kn(0, 1), DIVIDE, v(0)), 0, 1000, 11, 0, 5);
        doc.told("not what is dropped inside", actions(REPEAT, kn(5, 2), DROP, 1, STOP, 0), 0, 0, 11, 5);
        doc.told("TROUBLE in a later round", actions(REPEAT, kn(5, 3), SLEEP, 0, ADD, v(1), INTERRUPT, 0), 107, 1, 5, 0, 0, 1);
    }

    // OPS 15 to 18

    private void notifies() {
        for (int k = 0; k < 16; k++) {
            int other = 1 - k % 2;
            doc.told("K " + k + ", held", actions(ADD, v(5), HOLD, kn(k % 2, 1), NOTIFY, kn(k, 0)), 0, 5, 3, 0, 0, -1, -1);
            doc.told("K " + k + ", not held", actions(ADD, v(5), NOTIFY, kn(k, 0)), 106, 5, 2, 0, 0, 1, -1);
            doc.told("K " + k + ", the other held", actions(HOLD, kn(other, 1), NOTIFY, kn(k, 0)), 106, 0, 2, 0, 0, 1, -1);
            doc.told("K " + k + ", let go", actions(HOLD, kn(k, 0), NOTIFY, kn(k, 0)), 106, 0, 2, 0, 0, 1, -1);
        }
        doc.told("the mark is nothing to it", actions(INTERRUPT, 0, HOLD, 1, NOTIFY, 0), 0, 0, 3, 0, 0, -1, -1, 1);
    }

    private void waitsNotHeld() {
        for (int k = 0; k < 16; k++) {
            int other = 1 - k % 2;
            doc.told("K " + k, actions(ADD, v(5), WAIT, kn(k, 0)), 106, 5, 2, 0, 0, 1, -1, 0);
            doc.told("K " + k + ", the other held", actions(HOLD, kn(other, 1), WAIT, kn(k, 0)), 106, 0, 2, 0, 0, 1, -1, 0);
            doc.told("K " + k + ", before the mark is looked at", actions(INTERRUPT, 0, WAIT, kn(k, 0)), 106, 0, 2, 0, 0, 1, -1, 1);
        }
    }

    private void waits() {
        for (int k = 0; k < 16; k++) {
            doc.told("K " + k + ", the mark is set", actions(INTERRUPT, 0, HOLD, kn(k % 2, 1), WAIT, kn(k, 0)),
                    107, 0, 3, 0, 0, 2, -1, 0);
            doc.told("K " + k + ", it is not", actions(ADD, v(5), HOLD, kn(k % 2, 1), WAIT, kn(k, 0)), 0, 5, 3, 0, 0, -1, -1, 0);
        }
        doc.told("set no more: the second one waits", actions(INTERRUPT, 0, HOLD, 3, CATCH, kn(7, 1), WAIT, 0, WAIT, 0),
                0, 1112, 5, 0, 1, -1, -1, 0);
        doc.told("held still", actions(HOLD, 2, WAIT, 0, HELD, 0), 0, 1, 3);
        doc.told("held twice, held still", actions(HOLD, 4, HOLD, 1, WAIT, 0, WAIT, 0, HELD, 0), 0, 1, 5);
    }

    private void sleeps() {
        doc.told("set", actions(INTERRUPT, 0, ADD, v(5), SLEEP, 0), 107, 5, 3, 0, 0, 2, -1, 0);
        doc.told("not set", actions(ADD, v(5), SLEEP, 255), 0, 5, 2, 0, 0, -1, -1, 0);
        doc.told("set no more", actions(INTERRUPT, 0, CATCH, kn(7, 1), SLEEP, 0, SLEEP, 0), 0, 1112, 4, 0, 1, -1, -1, 0);
        doc.told("no monitor is asked for", actions(HOLD, 1, SLEEP, kn(1, 0)), 0, 0, 2, 0, 0, -1, -1, 0);
    }

    private void held() {
        for (int k = 0; k < 16; k++) {
            int other = 1 - k % 2;
            doc.told("K " + k + ", held", actions(ADD, v(5), HOLD, kn(k % 2, 1), HELD, kn(k, 0)), 0, 1, 3);
            doc.told("K " + k + ", not held", actions(ADD, v(5), HELD, kn(k, 0)), 0, 0, 2);
            doc.told("K " + k + ", the other held", actions(ADD, v(5), HOLD, kn(other, 1), HELD, kn(k, 0)), 0, 0, 3);
        }
        doc.told("held twice is 1, too", actions(HOLD, 2, HOLD, 1, HELD, 0), 0, 1, 3);
    }

    // OPS 19 to 21

    private void counts() {
        CaseExecutor x = with(0, COUNT, v(-100));
        put(x, 1, COUNT, v(155), COUNT, v(0));
        put(x, 2, DROP, 2, COUNT, v(7), STOP, 0);
        put(x, 3, COUNT, v(1), DIVIDE, v(0), COUNT, v(50));
        doc.due("at first", x.counter(), 0);
        x.run(0, false);
        doc.due("the least V", x.counter(), -100);
        x.run(1, true);
        doc.due("the greatest V, of another RUN", x.counter(), 55);
        x.run(2, false);
        doc.due("what is counted in DROP stays", x.counter(), 62);
        x.run(3, true);
        doc.due("what is counted before a TROUBLE stays", x.counter(), 63);
        x.runAll(15);
        doc.due("all share it", x.counter(), 126);
        doc.told("the ACCUMULATOR stays", actions(ADD, v(5), COUNT, v(7)), 0, 5, 2);
    }

    private void stops() {
        doc.told("the first", actions(STOP, 255, ADD, v(1)), 0, 0, 1, 0, 0, -1, -1);
        doc.told("the last", actions(ADD, v(1), STOP, 0), 0, 1, 2, 0, 0, -1, -1);
        doc.told("before a TROUBLE", actions(ADD, v(1), STOP, 0, DIVIDE, v(0)), 0, 1, 2, 0, 0, -1, -1);
        doc.told("out of blocks", actions(HOLD, 3, REPEAT, kn(3, 2), CATCH, kn(15, 1), STOP, 0, ADD, v(1)), 0, 0, 4, 0, 0, -1, -1);
        doc.told("the mark stays", actions(INTERRUPT, 0, STOP, 0), 0, 0, 2, 0, 0, -1, -1, 1);
    }

    private void stopsThroughBlocks() {
        doc.told("FINALLY", actions(FINALLY, 2, ADD, v(7), STOP, 0, ADD, v(1)), 0, -7, 3, 1);
        doc.told("two FINALLY", actions(FINALLY, 3, FINALLY, 2, ADD, v(7), STOP, 0, ADD, v(1)), 0, 7, 4, 2);
        doc.told("HOLD", actions(DROP, 2, HOLD, 1, STOP, 0, ADD, v(5), HELD, 0), 0, 0, 5, 1);
        doc.told("HOLD and FINALLY", actions(DROP, 4, FINALLY, 3, HOLD, 2, ADD, v(7), STOP, 0, NOTIFY, 0), 106, -7, 6, 2, 0, 5);
    }

    private void names() {
        for (int p = 0; p < PROGRAMS; p++) {
            CaseExecutor x = with(p, ADD, v(1), NAME, 77);
            x.run(p, false);
            doc.due("program " + p + " on the spot", x.told(p, 1), 10);
            x.run(p, true);
            doc.due("program " + p + " by a thread", x.told(p, 1), 20 + p);
            x.run(p, false);
            x.runAll(1 << p);
            doc.due("program " + p + " by runAll", x.told(p, 1), 20 + p);
        }
    }
}
