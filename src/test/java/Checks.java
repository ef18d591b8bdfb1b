import java.util.ArrayList;
import java.util.List;

/** Counts and prints answers that are not as due; shared by the tests. */
final class Checks {
    interface Call {
        int answer();
    }

    private int made;
    private int wrong;

    void due(String call, long want, long got) {
        made++;
        if (got != want) {
            wrong++;
            System.out.println(call + " answered " + got + ", due is " + want);
        }
    }

    /** The call throws exactly this exception, and all that can be asked of x stays as it was. */
    void dueThrow(String call, CoreTransactions x, Class<? extends RuntimeException> want, Call made) {
        List<Integer> before = stateOf(x);
        due(call + " (state after a throw)", 1, throwsIt(call, want, made) && before.equals(stateOf(x)) ? 1 : 0);
    }

    private static boolean throwsIt(String call, Class<? extends RuntimeException> want, Call made) {
        try {
            System.out.println(call + " answered " + made.answer() + ", due is " + want.getSimpleName());
            return false;
        } catch (RuntimeException e) {
            if (e.getClass() != want) {
                System.out.println(call + " threw " + e + ", due is " + want.getSimpleName());
            }
            return e.getClass() == want;
        }
    }

    void dueRecord(CoreTransactions x, int k, int core, int place, int code, int age) {
        if (k >= x.records()) {
            due("there is a record " + k, 1, 0);
            return;
        }
        due("record " + k + ": core", core, x.record(k, 0));
        due("record " + k + ": BEGIN's place", place, x.record(k, 1));
        due("record " + k + ": code", code, x.record(k, 2));
        due("record " + k + ": age", age, x.record(k, 3));
    }

    static void program(CoreTransactions x, int[]... rows) {
        for (int[] row : rows) {
            x.instruction(row[0], row[1], row[2], row[3]);
        }
    }

    /** All that the object's asking calls answer, one behind the other. */
    static List<Integer> stateOf(CoreTransactions x) {
        List<Integer> state = new ArrayList<>();
        for (int word = 0; word < 64; word++) {
            state.add(x.word(word));
        }
        for (int core = 0; core < coresOf(x); core++) {
            for (int what = 0; what < 10; what++) {
                state.add(x.told(core, what));
            }
            for (int register = 0; register < 8; register++) {
                state.add(x.register(core, register));
            }
            for (int word = 0; word < 64; word++) {
                state.add(x.seen(core, word));
            }
        }
        state.add(x.records());
        for (int k = 0; k < x.records(); k++) {
            for (int what = 0; what < 4; what++) {
                state.add(x.record(k, what));
            }
        }
        return state;
    }

    static int coresOf(CoreTransactions x) {
        for (int core = 0; core < 100; core++) {
            try {
                x.told(core, 0);
            } catch (IndexOutOfBoundsException e) {
                return core;
            }
        }
        return 100;
    }

    /** Ends the test: with exit code 1 if an answer was wrong, or if none was asked for. */
    void end(String test) {
        System.out.println(test + ": " + made + " answers, " + wrong + " wrong");
        if (wrong != 0 || made == 0) {
            System.exit(1);
        }
    }
}
