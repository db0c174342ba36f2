import java.lang.reflect.Member;
import java.lang.reflect.Modifier;
import java.util.Arrays;
import java.util.Set;
import java.util.TreeSet;
import java.util.stream.Collectors;

/** 'What it is', sentence by sentence, and 'The public face', line by line. */
final class FaceSentences extends Cases {
    private static final int MOST_CALLS = 512;

    private final Sentences doc;

    FaceSentences(Sentences itsDoc) {
        doc = itsDoc;
    }

    void all() {
        doc.section("What it is");
        whatItIs();
        doc.section("The public face");
        face();
    }

    private void whatItIs() {
        doc.sentence("An executor of small cases: programs of actions,", this::programsOfActions);
        doc.sentence("in which all that the machine can throw is thrown and caught,", this::thrownAndCaught);
        doc.sentence("monitors are held and asked for,", this::heldAndAskedFor);
        doc.sentence("and the interrupted mark is set and looked at;", this::setAndLookedAt);
        doc.sentence("each is run on the spot or by a thread of its own, several at a time,", this::runInEachWay);
        doc.sentence("and its outcome is told.", this::outcomeIsTold);
        doc.sentence("An object is used for at most 512 calls after it has been made;", this::fiveHundredAndTwelveCalls);
        doc.sentence("what later calls answer is free.", this::laterCalls);
    }

    private void face() {
        doc.sentence("public final class CaseExecutor {", this::publicAndFinal);
        constant("public static final int DONE", 0);
        constant("public static final int REFUSED", -1);
        constant("public static final int FULL", -2);
        constant("public static final int NOT_RUN", -3);
        member("public CaseExecutor();");
        member("public int add(int program, int op, int argument);");
        member("public int clear(int program);");
        member("public int run(int program, boolean thread);");
        member("public int runAll(int mask);");
        member("public int told(int program, int what);");
        member("public int cell(int program, int i);");
        member("public long counter();");
        member("public int count(int what);");
        doc.sentence("}", () -> doc.due("members that are not private: " + openMembers(), openMembers().size(), 13));
    }

    // What it is

    private void programsOfActions() {
        doc.told("each action in its turn", actions(ADD, v(7), MULTIPLY, v(6), KEEP, v(1)), 0, 42, 3);
    }

    private void thrownAndCaught() {
        for (int t = 0; t <= 10; t++) {
            int caught = 1000 + 16 * t + (t == 10 ? 9 : 0);
            doc.told("TROUBLE " + t + ", thrown", trouble(t), 100 + t, 0, 1, 0, 0, 0);
            doc.told("TROUBLE " + t + ", caught", joined(actions(CATCH, kn(t, 1)), trouble(t)), 0, caught, 2, 0, 1, -1);
        }
    }

    private void heldAndAskedFor() {
        for (int monitor = 0; monitor < 2; monitor++) {
            int[] held = actions(HOLD, kn(monitor, 3), NOTIFY, kn(monitor, 0), WAIT, kn(monitor, 0), HELD, kn(monitor, 0));
            doc.told("monitor " + monitor + ", held", held, 0, 1, 4);
            doc.told("monitor " + monitor + ", held no more", joined(held, actions(HELD, kn(monitor, 0))), 0, 0, 5);
        }
    }

    private void setAndLookedAt() {
        doc.told("set and looked at", actions(INTERRUPT, 0, LOOK, 0), 0, 1, 2, 0, 0, -1, -1, 0);
        doc.told("set only", actions(INTERRUPT, 0), 0, 0, 1, 0, 0, -1, -1, 1);
    }

    private void runInEachWay() {
        CaseExecutor x = new CaseExecutor();
        for (int p = 0; p < PROGRAMS; p++) {
            put(x, p, NAME, 0);
        }
        for (int p = 0; p < PROGRAMS; p++) {
            x.run(p, false);
            doc.due("program " + p + " on the spot", x.told(p, 1), 10);
            x.run(p, true);
            doc.due("program " + p + " by a thread", x.told(p, 1), 20 + p);
        }
        x.runAll(63);
        doc.due("RUNS", x.count(0), 18);
        doc.due("RUNS by threads", x.count(1), 12);
    }

    private void outcomeIsTold() {
        doc.told("without TROUBLE", actions(ADD, v(1)), CaseExecutor.DONE);
        doc.told("with TROUBLE", actions(DIVIDE, v(0)), 100);
    }

    private void fiveHundredAndTwelveCalls() {
        callsOfTheMostRuns();
        callsOfOneProgram();
    }

    /** 84 calls of add and 427 of runAll, each of six RUNS of 400 STEPS; then the 512th. */
    private void callsOfTheMostRuns() {
        CaseExecutor x = new CaseExecutor();
        for (int p = 0; p < PROGRAMS; p++) {
            put(x, p, REPEAT, kn(15, 13), REPEAT, kn(15, 12), COUNT, v(155));
            for (int i = 3; i < MOST_ACTIONS; i++) {
                x.add(p, COUNT, v(155));
            }
        }
        int runs = MOST_CALLS - PROGRAMS * MOST_ACTIONS - 1;
        for (int i = 0; i < runs; i++) {
            x.runAll(63);
        }
        // of 400 STEPS four are REPEAT: the outer one, and the inner one in three of its rounds
        doc.due("the 512th", x.counter(), 427L * 6 * 155 * 396);
    }

    /** Two calls of add and 509 RUNS of one program; then the 512th. */
    private void callsOfOneProgram() {
        for (int what = 0; what < 3; what++) {
            CaseExecutor x = afterRunsOfOneProgram(MOST_CALLS - 3);
            int[] dues = {509, 255, 509};
            doc.due("the 512th, count " + what, x.count(what), dues[what]);
        }
        for (int what = 0; what < 8; what++) {
            CaseExecutor x = afterRunsOfOneProgram(MOST_CALLS - 3);
            int[] dues = {110, 23, 2, 0, 0, 1, 4, 0};
            doc.due("the 512th, told " + what, x.told(3, what), dues[what]);
        }
    }

    /** Every other RUN, the first and the last of an odd number among them, is by a thread. */
    private static CaseExecutor afterRunsOfOneProgram(int runs) {
        CaseExecutor x = with(3, NAME, 0, THROW, kn(10, 4));
        for (int i = 0; i < runs; i++) {
            x.run(3, i % 2 == 0);
        }
        return x;
    }

    /** The answers are free, but LANGUAGE.md (7) asks that there are some. */
    private void laterCalls() {
        CaseExecutor x = new CaseExecutor();
        for (int i = 0; i < 2 * MOST_CALLS; i++) {
            x.add(i % PROGRAMS, i % 22, i % 256);
            x.run(i % PROGRAMS, true);
            x.runAll(63);
        }
        doc.due("answers asked for", state(x).length, 106);
    }

    // The public face

    private void publicAndFinal() {
        int modifiers = CaseExecutor.class.getModifiers();
        doc.holds("public", Modifier.isPublic(modifiers));
        doc.holds("final", Modifier.isFinal(modifiers));
        doc.holds("extends nothing", CaseExecutor.class.getSuperclass() == Object.class);
        doc.due("interfaces", CaseExecutor.class.getInterfaces().length, 0);
    }

    private void constant(String declaration, int value) {
        String name = declaration.substring(declaration.lastIndexOf(' ') + 1);
        doc.sentence(declaration + " = " + value + ";", () -> {
            doc.holds("is there, with these words", openMembers().contains(declaration));
            doc.due("its value", valueOf(name), value);
        });
    }

    private static int valueOf(String name) {
        try {
            return CaseExecutor.class.getField(name).getInt(null);
        } catch (ReflectiveOperationException e) {
            throw new IllegalStateException(e);
        }
    }

    private void member(String declaration) {
        // the machine knows the types of the parameters, not their names
        String typesOnly = declaration.replaceAll(" \\w+([,)])", "$1").replace(", ", ",").replace(";", "");
        doc.sentence(declaration, () -> doc.holds("is there, with these words", openMembers().contains(typesOnly)));
    }

    /** All that is declared and not private, as the document writes it, but for the names of parameters. */
    private static Set<String> openMembers() {
        Set<String> open = new TreeSet<>();
        open.addAll(openOf(CaseExecutor.class.getDeclaredFields()));
        open.addAll(openOf(CaseExecutor.class.getDeclaredConstructors()));
        open.addAll(openOf(CaseExecutor.class.getDeclaredMethods()));
        return open;
    }

    private static Set<String> openOf(Member[] members) {
        return Arrays.stream(members)
                .filter(member -> !Modifier.isPrivate(member.getModifiers()))
                .map(member -> member.toString().replace("CaseExecutor.", ""))
                .collect(Collectors.toSet());
    }
}
