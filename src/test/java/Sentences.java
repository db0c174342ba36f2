/** Tests that each belong to one sentence of the document: a wrong answer is told with that sentence. */
final class Sentences {
    private final Checks checks = new Checks();
    private final Document document = new Document();
    private String section = "";
    private String words = "";

    void section(String title) {
        section = title;
    }

    /** Runs the test of one sentence, or of one part of it. */
    void sentence(String itsWords, Runnable test) {
        words = itsWords;
        holds("stands once in the document", document.quote(section, words));
        int madeBefore = checks.made();
        try {
            test.run();
        } catch (RuntimeException | StackOverflowError e) {
            holds("threw nothing, but " + e, false);
        }
        holds("is tested", checks.made() > madeBefore);
    }

    void due(String what, long got, long want) {
        checks.due("[" + section + "] \"" + words + "\" " + what, got, want);
    }

    void holds(String what, boolean holds) {
        due(what, holds ? 1 : 0, 1);
    }

    /** Every answer that tells of the object's state is as it was. */
    void unchanged(String what, long[] before, CaseExecutor x) {
        long[] now = Cases.state(x);
        for (int i = 0; i < before.length; i++) {
            due(what + " changes nothing, answer " + i, now[i], before[i]);
        }
    }

    /**
     * Runs program 0 of these actions on the spot, by a thread and by runAll;
     * dues are what told(0, 0), told(0, 1) ... must answer.
     */
    CaseExecutor told(String what, int[] actions, int... dues) {
        CaseExecutor x = Cases.with(0, actions);
        due(what + ": actions", x.count(3), actions.length / 2);
        due(what + ": run on the spot", x.run(0, false), dues[0]);
        toldOf(x, what + ", on the spot", dues);
        due(what + ": run by a thread", x.run(0, true), dues[0]);
        toldOf(x, what + ", by a thread", dues);
        due(what + ": runAll", x.runAll(1), dues[0] == CaseExecutor.DONE ? 0 : 1);
        toldOf(x, what + ", by runAll", dues);
        return x;
    }

    private void toldOf(CaseExecutor x, String what, int... dues) {
        for (int i = 0; i < dues.length; i++) {
            due(what + ": told " + i, x.told(0, i), dues[i]);
        }
    }

    /** Each word of the section belongs to a test. */
    void whole(String title) {
        section = title;
        words = "";
        String rest = document.notQuoted(title);
        holds("has a test for each sentence, but not for: " + rest, rest.isEmpty());
    }

    void end(String name) {
        checks.end(name);
    }
}
