import java.util.Arrays;

/**
 * The class models threads, monitors and exceptions, as LANGUAGE.md leaves it none of Java's.
 * Here the same programs are done with the real ones, and every answer is compared.
 */
public final class RealMachineTest {
    private static final int OBJECTS = 1500;
    private static final Checks checks = new Checks();
    private static int seed = 20261115;

    public static void main(String[] args) throws Exception {
        int[] outcomes = new int[12];
        for (int i = 0; i < OBJECTS && checks.wrong() < 20; i++) {
            compareOneObject(outcomes);
        }
        for (int trouble = 0; trouble <= 10; trouble++) {
            checks.holds("some run ends with trouble " + trouble, outcomes[1 + trouble] > 0);
        }
        checks.holds("some run ends without trouble", outcomes[0] > 0);
        checks.end("RealMachineTest");
    }

    private static int below(int bound) {
        seed = seed * 1103515245 + 12345;
        return (seed >>> 16) % bound;
    }

    private static int someOp() {
        return below(5) < 2 ? 10 + below(5) : below(22);
    }

    private static int someArgument(int op) {
        if (op <= 5) {
            return 96 + below(14);
        }
        if (op == 13 || op == 15 || op == 16 || op == 18) {
            return 16 * below(2) + below(8);
        }
        if (op == 7) {
            return 16 * (7 + below(5)) + below(16);
        }
        return below(256);
    }

    private static void compareOneObject(int[] outcomes) throws Exception {
        CaseExecutor x = new CaseExecutor();
        int[][] ops = new int[6][];
        int[][] arguments = new int[6][];
        for (int p = 0; p < 6; p++) {
            int size = p == 0 ? 14 : below(15);
            ops[p] = new int[size];
            arguments[p] = new int[size];
            for (int i = 0; i < size; i++) {
                ops[p][i] = someOp();
                arguments[p][i] = someArgument(ops[p][i]);
                x.add(p, ops[p][i], arguments[p][i]);
            }
        }
        RealCase[] all = new RealCase[6];
        long counter = 0;
        int troubled = 0;
        for (int p = 0; p < 6; p++) {
            boolean thread = below(2) == 1;
            RealCase real = new RealCase(ops[p], arguments[p], thread ? 20 + p : 10);
            perform(real, thread);
            checks.due("run", x.run(p, thread), real.outcome());
            compareTold(x, p, real);
            counter += real.counted;
            troubled += real.outcome() == 0 ? 0 : 1;
            outcomes[real.outcome() == 0 ? 0 : real.outcome() - 99]++;
            checks.due("counter", x.counter(), counter);
            all[p] = new RealCase(ops[p], arguments[p], 20 + p);
        }
        checks.due("troubled", x.count(2), troubled);
        compareAll(x, all, counter);
    }

    private static void compareAll(CaseExecutor x, RealCase[] all, long counterBefore) throws Exception {
        performAll(all);
        int troubled = 0;
        long counter = counterBefore;
        for (RealCase real : all) {
            troubled += real.outcome() == 0 ? 0 : 1;
            counter += real.counted;
        }
        checks.due("runAll(63)", x.runAll(63), troubled);
        for (int p = 0; p < 6; p++) {
            compareTold(x, p, all[p]);
        }
        checks.due("counter", x.counter(), counter);
        checks.due("runs", x.count(0), 12);
    }

    private static void perform(RealCase real, boolean thread) throws InterruptedException {
        if (thread) {
            performAll(new RealCase[] {real});
        } else {
            real.run();
        }
    }

    private static void performAll(RealCase[] cases) throws InterruptedException {
        Thread[] threads = new Thread[cases.length];
        for (int i = 0; i < cases.length; i++) {
            threads[i] = new Thread(cases[i]);
            threads[i].start();
        }
        for (Thread thread : threads) {
            thread.join();
        }
    }

    private static void compareTold(CaseExecutor x, int p, RealCase real) {
        int wrongBefore = checks.wrong();
        int[] dues = {real.outcome(), real.accumulator, real.steps, real.finals, real.catches,
            real.endAction(), real.endNumber(), real.markedAtEnd ? 1 : 0};
        for (int what = 0; what < dues.length; what++) {
            checks.due("told " + what, x.told(p, what), dues[what]);
        }
        for (int i = 0; i < 8; i++) {
            checks.due("cell " + i, x.cell(p, i), real.cells[i]);
        }
        if (checks.wrong() != wrongBefore) {
            System.out.println("  in " + Arrays.toString(real.ops) + " " + Arrays.toString(real.arguments));
        }
    }

    private static final class Own extends Exception {
        private static final long serialVersionUID = 1L;
        final int number;

        Own(int itsNumber) {
            number = itsNumber;
        }
    }

    private static final class Stop extends Error {
        private static final long serialVersionUID = 1L;
    }

    /** One run of a program, done by the machine's own means. */
    private static final class RealCase implements Runnable {
        final int[] ops;
        final int[] arguments;
        final int name;
        final int[] cells = new int[8];
        final Object[] monitors = {new Object(), new Object()};
        int accumulator;
        int steps;
        int finals;
        int catches;
        long counted;
        boolean markedAtEnd;
        Exception end;
        Exception latest;
        int latestAction;

        RealCase(int[] itsOps, int[] itsArguments, int itsName) {
            ops = itsOps;
            arguments = itsArguments;
            name = itsName;
        }

        int outcome() {
            return end == null ? 0 : 100 + number(end);
        }

        int endAction() {
            return end == null ? -1 : latestAction;
        }

        int endNumber() {
            return end instanceof Own own ? own.number : -1;
        }

        @Override
        public void run() {
            try {
                block(0, ops.length);
            } catch (Stop stop) {
                end = null;
            } catch (Exception e) {
                end = e;
            }
            markedAtEnd = Thread.interrupted();
        }

        private static int number(Exception e) {
            Class<?>[] kinds = {ArithmeticException.class, IndexOutOfBoundsException.class,
                NullPointerException.class, ClassCastException.class, ArrayStoreException.class,
                NegativeArraySizeException.class, IllegalMonitorStateException.class,
                InterruptedException.class, IllegalStateException.class, IllegalArgumentException.class,
                Own.class};
            for (int i = 0; i < kinds.length; i++) {
                if (kinds[i].isInstance(e)) {
                    return i;
                }
            }
            throw new AssertionError(e);
        }

        private void block(int from, int to) throws Exception {
            int i = from;
            while (i < to) {
                if (steps == 400) {
                    throw new Stop();
                }
                steps++;
                boolean hasBlock = ops[i] >= 10 && ops[i] <= 14;
                int behind = hasBlock ? Math.min(to, i + 1 + arguments[i] % 16) : i + 1;
                try {
                    if (hasBlock) {
                        blockAction(i, behind);
                    } else {
                        plainAction(ops[i], arguments[i] - 100, arguments[i] % 16, arguments[i] / 16);
                    }
                } catch (Exception e) {
                    // the innermost action sees a new exception first
                    if (e != latest) {
                        latest = e;
                        latestAction = i;
                    }
                    throw e;
                }
                i = behind;
            }
        }

        private void blockAction(int i, int behind) throws Exception {
            int k = arguments[i] / 16;
            switch (ops[i]) {
                case 10 -> catching(k, i + 1, behind);
                case 11 -> {
                    try {
                        block(i + 1, behind);
                    } finally {
                        finals++;
                        accumulator = -accumulator;
                    }
                }
                case 12 -> {
                    try {
                        block(i + 1, behind);
                    } catch (Throwable forgotten) {
                        latest = null;
                    }
                    finals++;
                }
                case 13 -> {
                    synchronized (monitors[k % 2]) {
                        block(i + 1, behind);
                    }
                }
                default -> {
                    for (int times = 0; times < k; times++) {
                        block(i + 1, behind);
                    }
                }
            }
        }

        private void catching(int k, int from, int to) throws Exception {
            switch (k) {
                case 11 -> {
                    try {
                        block(from, to);
                    } catch (RuntimeException e) {
                        caught(e);
                    }
                }
                case 12 -> {
                    try {
                        block(from, to);
                    } catch (IndexOutOfBoundsException | IllegalArgumentException e) {
                        caught(e);
                    }
                }
                case 13 -> {
                    try {
                        block(from, to);
                    } catch (InterruptedException | Own e) {
                        caught(e);
                    }
                }
                case 14 -> {
                    try {
                        block(from, to);
                    } catch (RuntimeException e) {
                        caught(e);
                        throw new Own(14);
                    }
                }
                case 15 -> {
                    try {
                        block(from, to);
                    } catch (Exception e) {
                        caught(e);
                    }
                }
                default -> {
                    try {
                        block(from, to);
                    } catch (Exception e) {
                        if (number(e) != k) {
                            throw e;
                        }
                        caught(e);
                    }
                }
            }
        }

        private void caught(Exception e) {
            // the machine may throw the very same object a second time once the code is hot
            latest = null;
            catches++;
            accumulator = 1000 + 16 * number(e) + (e instanceof Own own ? own.number : 0);
        }

        private void plainAction(int op, int v, int n, int k) throws Exception {
            Object monitor = monitors[k % 2];
            switch (op) {
                case 0 -> accumulator += v;
                case 1 -> accumulator *= v;
                case 2 -> accumulator /= v;
                case 3 -> accumulator %= v;
                case 4 -> accumulator = cells[v];
                case 5 -> cells[v] = accumulator;
                case 6 -> breaking(k, n);
                case 7 -> throwing(k, n);
                case 8 -> Thread.currentThread().interrupt();
                case 9 -> accumulator = Thread.interrupted() ? 1 : 0;
                case 15 -> monitor.notify();
                case 16 -> monitor.wait(1);
                case 17 -> Thread.sleep(0);
                case 18 -> accumulator = Thread.holdsLock(monitor) ? 1 : 0;
                case 19 -> counted += v;
                case 20 -> throw new Stop();
                case 21 -> accumulator = name;
                default -> throw new AssertionError(op);
            }
        }

        private void breaking(int k, int n) {
            int zero = k & 0;
            switch (k) {
                case 0 -> accumulator = n / zero;
                case 1 -> accumulator = cells[8 + n];
                case 2 -> {
                    String none = null;
                    accumulator = none.length();
                }
                case 3 -> {
                    Object text = "text";
                    accumulator = (Integer) text;
                }
                case 4 -> {
                    Object[] texts = new String[1];
                    texts[0] = Integer.valueOf(n);
                }
                case 5 -> accumulator = new boolean[-1 - n].length;
                default -> accumulator = new boolean[n].length;
            }
        }

        private static void throwing(int k, int n) throws Exception {
            switch (k) {
                case 7 -> throw new InterruptedException();
                case 8 -> throw new IllegalStateException();
                case 9 -> throw new IllegalArgumentException();
                case 10 -> throw new Own(n);
                default -> { }
            }
        }
    }
}
