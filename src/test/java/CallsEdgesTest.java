/** The sentences of the face and of the promises that name a boundary: just inside of it, and just outside. */
public final class CallsEdgesTest implements Names {
    private static final int[] NO_PICKS = {MIN, -1, 2001, MAX};
    private static final int[] NO_WORDS = {MIN, -4, -1, 64, 65, MAX};
    private static final int[] NO_REGISTERS = {MIN, -1, 8, MAX};

    private final Checks checks = new Checks();

    public static void main(String[] args) {
        CallsEdgesTest test = new CallsEdgesTest();
        test.fiveHundredAndTwelveCalls();
        test.coresInsideAndOutside();
        test.nearestOfAllThree();
        test.newObjectIsEmpty();
        test.instructionNumbers();
        test.instructionOperations();
        test.instructionRegisters();
        test.instructionFirstException();
        test.startPlaces();
        test.startOfWhatHasEnded();
        test.startWithinATransaction();
        test.startKeepsRegisters();
        test.setRegisters();
        test.setWithinATransaction();
        test.pokeWords();
        test.pokeOfReadersAndWriters();
        test.pokeBesideALine();
        test.pickTimes();
        test.pickAsLongAsItRuns();
        test.runPicks();
        test.runSeeds();
        test.runHighestBits();
        test.runOfEndedCores();
        test.askingChangesNothing();
        test.wordAndSeen();
        test.toldFacts();
        test.recordsFromNoneTo100();
        test.recordOfEachKind();
        test.clearOfAFullObject();
        test.clearKeepsTheShape();
        test.throwsChangeNothing();
        test.checks.end("CallsEdgesTest");
    }

    private static CoreTransactions made(int cores, int sets, int ways, int[]... rows) {
        CoreTransactions x = new CoreTransactions(cores, sets, ways);
        Checks.program(x, rows);
        return x;
    }

    private static int[] row(int operation, int a, int b, int c) {
        return new int[] {operation, a, b, c};
    }

    private static int[] noCores(int cores) {
        return new int[] {MIN, -1, cores, cores + 1, MAX};
    }

    // "An object is used for at most 512 calls"

    private void fiveHundredAndTwelveCalls() {
        CoreTransactions x = made(1, 0, 1, row(BEGIN, 0, 0, 0), row(ABORT, 0, 0, 0));
        for (int call = 3; call <= 511; call++) {
            x.pick(0, 2000);
        }
        checks.due("the 512th call", 509000, x.told(0, BROKEN_OFF));
        checks.due("the last age", 509000, x.record(99, 3));
    }

    // Promise 1: "So many cores, 1 .. 4, with 1, 2 or 4 SETS for 0 .. 2, and so many ways, 1 .. 4"

    private void coresInsideAndOutside() {
        for (int cores = 1; cores <= 4; cores++) {
            CoreTransactions x = made(cores, 0, 1, row(MORE, 2, 2, 1));
            int last = cores - 1;
            checks.due("start of the last", 0, x.start(last, 0));
            checks.due("set of the last", 0, x.set(last, 2, 4));
            checks.due("pick of the last", 1, x.pick(last, 1));
            checks.due("register of the last", 5, x.register(last, 2));
            checks.due("seen by the last", 0, x.seen(last, 0));
            checks.due("told of the last", 1, x.told(last, RETIRED));
            for (int core : noCores(cores)) {
                String call = "core " + core + " of " + cores;
                checks.dueThrow("start, " + call, x, INDEX, () -> x.start(core, 0));
                checks.dueThrow("set, " + call, x, INDEX, () -> x.set(core, 2, 1));
                checks.dueThrow("pick, " + call, x, INDEX, () -> x.pick(core, 1));
                checks.dueThrow("register, " + call, x, INDEX, () -> x.register(core, 2));
                checks.dueThrow("seen, " + call, x, INDEX, () -> x.seen(core, 0));
                checks.dueThrow("told, " + call, x, INDEX, () -> x.told(core, 0));
            }
        }
    }

    private void nearestOfAllThree() {
        int[][] rows = {{MIN, MIN, MIN, 1, 1, 1}, {0, -1, 0, 1, 1, 1}, {1, 0, 1, 1, 1, 1}, {2, 1, 2, 2, 2, 2},
            {3, 2, 3, 3, 4, 3}, {4, 2, 4, 4, 4, 4}, {5, 3, 5, 4, 4, 4}, {MAX, MAX, MAX, 4, 4, 4},
            {MIN, MAX, MIN, 1, 4, 1}, {MAX, MIN, MAX, 4, 1, 4}};
        for (int[] one : rows) {
            CoreTransactions x = made(one[0], one[1], one[2], row(BEGIN, 0, 0, 70), row(LOAD, 2, 3, 0),
                    row(MORE, 3, 3, 4), row(JUMP, 0, 0, 1));
            String call = "new(" + one[0] + ", " + one[1] + ", " + one[2] + ")";
            checks.due(call + ": cores", one[3], Checks.coresOf(x));
            int lines = one[4] * one[5];
            x.pick(0, 1 + 3 * lines);
            checks.due(call + ": lines", lines, x.told(0, READ));
            checks.due(call + ": no room or no word for the next", 0, x.pick(0, 1));
            checks.due(call + ": code", lines == 16 ? FAULT : NO_ROOM, x.register(0, 1));
        }
    }

    private void newObjectIsEmpty() {
        for (int cores = 1; cores <= 4; cores++) {
            CoreTransactions x = new CoreTransactions(cores, 1, 2);
            checks.due("no records", 0, x.records());
            checks.dueThrow("record(0, 0)", x, INDEX, () -> x.record(0, 0));
            for (int answer : Checks.stateOf(x)) {
                checks.due("all is 0", 0, answer);
            }
            checks.due("nothing to run", 0, x.run(1, 100));
            for (int core = 0; core < cores; core++) {
                checks.due("picked, it has ended", 1, x.told(core, ENDED));
                checks.due("its place stays", 0, x.told(core, PLACE));
            }
        }
    }

    // Promise 2: "An instruction behind the others: its number. IllegalArgument: the operation is not 0 .. 13, or a
    // register that it names is not 0 .. 7." UnsupportedOperation: there would be more than there may be.

    private void instructionNumbers() {
        CoreTransactions x = new CoreTransactions(1, 0, 1);
        for (int n = 0; n < 80; n++) {
            int wrong = n % 2 == 0 ? 14 : -1;
            checks.dueThrow("a wrong one before " + n, x, ILLEGAL, () -> x.instruction(wrong, 0, 0, 0));
            checks.due("number", n, x.instruction(n % 14, 0, 0, 0));
        }
        for (int n = 0; n < 3; n++) {
            checks.dueThrow("the 81st", x, UNSUPPORTED, () -> x.instruction(HALT, 0, 0, 0));
        }
        x.clear();
        checks.due("the first again", 0, x.instruction(HALT, 0, 0, 0));
        checks.due("HALT alone", 1, x.pick(0, 5));
    }

    private void instructionOperations() {
        CoreTransactions x = new CoreTransactions(1, 0, 1);
        int[] wrong = {MIN, -2, -1, 14, 15, 256, MAX};
        for (int operation : wrong) {
            checks.dueThrow("operation " + operation, x, ILLEGAL, () -> x.instruction(operation, 0, 0, 0));
        }
        checks.due("the first operation", 0, x.instruction(0, 0, 0, 0));
        checks.due("the last operation", 1, x.instruction(13, 0, 0, 0));
    }

    /** "(SET, ADD, SUB, MUL, LOAD, STORE, MORE, LESS, OTHER, ABORT name a; all with r b and r c these.)" */
    private void instructionRegisters() {
        int[] nameA = {SET, ADD, SUB, MUL, LOAD, STORE, MORE, LESS, OTHER, ABORT};
        int[] nameB = {ADD, SUB, MUL, MORE, LOAD, STORE, LESS, OTHER};
        int[] nameC = {ADD, SUB, MUL};
        int[] values = {MIN, -1, 0, 7, 8, MAX};
        CoreTransactions x = new CoreTransactions(1, 0, 1);
        for (int operation = SET; operation <= HALT; operation++) {
            for (int v : values) {
                boolean none = v < 0 || v > 7;
                dueNamed(x, row(operation, v, 7, 0), none && holds(nameA, operation));
                dueNamed(x, row(operation, 0, v, 7), none && holds(nameB, operation));
                dueNamed(x, row(operation, 7, 0, v), none && holds(nameC, operation));
            }
        }
    }

    private void dueNamed(CoreTransactions x, int[] one, boolean refused) {
        x.clear();
        String call = "instruction(" + one[0] + ", " + one[1] + ", " + one[2] + ", " + one[3] + ")";
        if (refused) {
            checks.dueThrow(call, x, ILLEGAL, () -> x.instruction(one[0], one[1], one[2], one[3]));
        } else {
            checks.due(call, 0, x.instruction(one[0], one[1], one[2], one[3]));
        }
        checks.due("the next number behind " + call, refused ? 0 : 1, x.instruction(END, 0, 0, 0));
    }

    private static boolean holds(int[] numbers, int number) {
        for (int one : numbers) {
            if (one == number) {
                return true;
            }
        }
        return false;
    }

    private void instructionFirstException() {
        CoreTransactions x = new CoreTransactions(1, 0, 1);
        for (int n = 0; n < 80; n++) {
            x.instruction(END, 0, 0, 0);
        }
        checks.dueThrow("full, and no operation", x, ILLEGAL, () -> x.instruction(-1, 0, 0, 0));
        checks.dueThrow("full, and no operation above", x, ILLEGAL, () -> x.instruction(14, 0, 0, 0));
        checks.dueThrow("full, and no r a", x, ILLEGAL, () -> x.instruction(SET, 8, 0, 0));
        checks.dueThrow("full, and no r b", x, ILLEGAL, () -> x.instruction(LOAD, 0, -1, 0));
        checks.dueThrow("full, and no r c", x, ILLEGAL, () -> x.instruction(ADD, 0, 0, 8));
        checks.dueThrow("full", x, UNSUPPORTED, () -> x.instruction(JUMP, 99, 99, 99));
        checks.due("all 80 are END", 80, x.pick(0, 100));
    }

    // Promise 3: "A core's place is another one, it runs, a transaction of it is gone, unrecorded, as if it had not
    // begun (registers stay as they are): the place before. IllegalArgument: it is not 0 .. 80."

    private void startPlaces() {
        CoreTransactions x = made(3, 0, 1, row(JUMP, 0, 0, MIN), row(JUMP, 0, 0, MAX));
        int before = 0;
        for (int place = 0; place <= 80; place++) {
            checks.due("the place before", before, x.start(2, place));
            checks.due("the place", place, x.told(2, PLACE));
            before = place;
        }
        int[] wrong = {MIN, -1, 81, 82, MAX};
        for (int place : wrong) {
            checks.dueThrow("start(2, " + place + ")", x, ILLEGAL, () -> x.start(2, place));
            for (int core : noCores(3)) {
                checks.dueThrow("start of no core and place", x, INDEX, () -> x.start(core, place));
            }
        }
        checks.due("none of them has moved it", 80, x.start(2, 0));
        x.pick(2, 1);
        checks.due("a place below all", MIN, x.start(2, 1));
        x.pick(2, 1);
        checks.due("a place above all", MAX, x.start(2, 0));
        checks.due("the others stay", 0, x.told(0, PLACE) + x.told(1, PLACE));
    }

    private void startOfWhatHasEnded() {
        CoreTransactions x = made(1, 0, 1, row(MORE, 2, 2, 1), row(HALT, 0, 0, 0), row(LOAD, 2, 0, 64));
        int[] starts = {0, 1, 2, 3, 80};
        int[] retired = {2, 1, 0, 0, 0};
        for (int n = 0; n < starts.length; n++) {
            x.start(0, starts[n]);
            checks.due("it runs", 0, x.told(0, ENDED));
            checks.due("retired from " + starts[n], retired[n], x.pick(0, 10));
            checks.due("it has ended", 1, x.told(0, ENDED));
        }
        checks.dueThrow("start of an ended core at 81", x, ILLEGAL, () -> x.start(0, 81));
        checks.due("it has not started", 0, x.pick(0, 10));
        checks.due("retired in all", 3, x.told(0, RETIRED));
    }

    private void startWithinATransaction() {
        CoreTransactions x = made(2, 0, 2, row(BEGIN, 0, 0, 50), row(BEGIN, 0, 0, 50), row(STORE, 2, 0, 5),
                row(LOAD, 3, 0, 9), row(STORE, 2, 0, 6), row(LOAD, 3, 0, 10));
        x.set(0, 2, 8);
        x.pick(0, 4);
        checks.due("in one", 2, x.told(0, DEEP));
        checks.due("the place before", 4, x.start(0, 4));
        for (int what = DEEP; what <= BROKEN_OFF; what++) {
            checks.due("gone, neither committed nor broken off: " + what, 0, x.told(0, what));
        }
        checks.due("unrecorded", 0, x.records());
        checks.due("nothing is stored", 0, x.word(5) + x.seen(0, 5));
        checks.due("retired stays", 4, x.told(0, RETIRED));
        checks.due("a STORE is without one", 1, x.pick(0, 1));
        checks.due("at once in memory", 8, x.word(6));
        x.pick(1, 2);
        x.start(1, 4);
        x.set(1, 2, 9);
        x.pick(1, 2);
        checks.due("its lines are free for others", 9, x.word(6));
        checks.due("nobody was broken off", 0, x.records());
        x.start(0, 1);
        x.pick(0, 1);
        checks.due("a new one is one deep", 1, x.told(0, DEEP));
        checks.due("with nothing stored", 9, x.seen(0, 6));
    }

    private void startKeepsRegisters() {
        CoreTransactions x = made(2, 0, 1, row(BEGIN, 0, 0, 50), row(MORE, 7, 7, 1), row(SET, 1, 0, 6),
                row(END, 0, 0, 0));
        for (int register = 1; register < 8; register++) {
            x.set(0, register, 30 + register);
        }
        x.pick(0, 3);
        x.start(0, 3);
        int[] due = {0, 6, 32, 33, 34, 35, 36, 38};
        for (int register = 0; register < 8; register++) {
            checks.due("r " + register + " stays", due[register], x.register(0, register));
        }
        checks.due("END is without one", 1, x.pick(0, 1));
        checks.due("nothing is committed", 0, x.told(0, COMMITTED));
    }

    // Promise 4: "A register that is not 0 is set: what it was. (r 0 stays 0.)"

    private void setRegisters() {
        CoreTransactions x = new CoreTransactions(4, 0, 1);
        int[] values = {MAX, MIN, -1, 0, 1};
        for (int register = 0; register < 8; register++) {
            int was = 0;
            for (int v : values) {
                checks.due("what it was", was, x.set(3, register, v));
                was = register == 0 ? 0 : v;
                checks.due("what it is", was, x.register(3, register));
            }
        }
        for (int register : NO_REGISTERS) {
            checks.dueThrow("set(3, " + register + ", 5)", x, INDEX, () -> x.set(3, register, 5));
            checks.dueThrow("register(3, " + register + ")", x, INDEX, () -> x.register(3, register));
            checks.dueThrow("set(4, " + register + ", 5)", x, INDEX, () -> x.set(4, register, 5));
            checks.dueThrow("register(4, " + register + ")", x, INDEX, () -> x.register(4, register));
        }
        for (int core = 0; core < 3; core++) {
            for (int register = 0; register < 8; register++) {
                checks.due("the others stay", 0, x.register(core, register));
            }
        }
    }

    private void setWithinATransaction() {
        CoreTransactions x = made(1, 0, 1, row(BEGIN, 0, 0, 4), row(STORE, 7, 0, 3), row(END, 0, 0, 0),
                row(BEGIN, 0, 0, 4), row(HALT, 0, 0, 0));
        x.set(0, 7, 1);
        x.pick(0, 1);
        checks.due("what it was", 1, x.set(0, 7, 2));
        checks.due("r 0 stays", 0, x.set(0, 0, 2));
        x.pick(0, 2);
        checks.due("as it was set", 2, x.word(3));
        checks.due("it stays behind the end", 2, x.register(0, 7));
        x.pick(0, 1);
        x.set(0, 7, 3);
        x.set(0, 1, 3);
        x.pick(0, 1);
        checks.due("lost with the transaction", 2, x.register(0, 7));
        checks.due("r 1 is the code", HALTED, x.register(0, 1));
    }

    // Promise 5: "A word of memory is set; transactions that have read or written its line are broken off, code 4:
    // what it was."

    private void pokeWords() {
        CoreTransactions x = new CoreTransactions(1, 0, 1);
        int[] values = {MAX, MIN, -1, 0, 7};
        for (int word = 0; word < 64; word++) {
            int was = 0;
            for (int v : values) {
                checks.due("what it was", was, x.poke(word, v));
                checks.due("what it is", v, x.word(word));
                was = v;
            }
        }
        for (int word : NO_WORDS) {
            checks.dueThrow("poke(" + word + ", 1)", x, INDEX, () -> x.poke(word, 1));
        }
    }

    private void pokeOfReadersAndWriters() {
        for (int kinds = 1; kinds <= 3; kinds++) {
            CoreTransactions x = made(2, 0, 1, row(BEGIN, 0, 0, 30), row(kinds == 2 ? STORE : LOAD, 2, 0, 61),
                    row(kinds == 1 ? LOAD : STORE, 2, 0, 62));
            x.set(1, 2, 5);
            x.poke(63, 44);
            x.pick(1, 3);
            checks.due("as it was, though the same", 44, x.poke(63, 44));
            checks.dueRecord(x, 0, 1, 0, CONFLICT, 1);
            checks.due("once", 1, x.records());
            checks.due("r 1", CONFLICT, x.register(1, 1));
            checks.due("it goes on", 30, x.told(1, PLACE));
            checks.due("it runs", 0, x.told(1, ENDED));
            checks.due("the pokes retire nothing", 3, x.told(1, RETIRED));
            checks.due("what it stored is lost", 0, x.word(62) + x.seen(1, 62));
            checks.due("again, it meets nobody", 44, x.poke(63, 45));
            checks.due("no record more", 1, x.records());
        }
        CoreTransactions x = made(4, 0, 1, row(BEGIN, 0, 0, 30), row(LOAD, 2, 0, 0));
        for (int core = 3; core >= 0; core--) {
            x.pick(core, 2);
        }
        x.poke(3, 1);
        checks.due("all four", 4, x.records());
        for (int core = 0; core < 4; core++) {
            checks.dueRecord(x, core, core, 0, CONFLICT, 4 - core);
        }
    }

    private void pokeBesideALine() {
        CoreTransactions x = made(2, 0, 4, row(BEGIN, 0, 0, 30), row(STORE, 2, 0, 0), row(LOAD, 2, 0, 63),
                row(LOAD, 2, 0, 30));
        x.set(0, 2, 9);
        x.pick(0, 4);
        int[] beside = {4, 59, 27, 32};
        for (int word : beside) {
            x.poke(word, 1);
            checks.due("beside its lines: " + word, 1, x.told(0, DEEP));
        }
        for (int word : NO_WORDS) {
            checks.dueThrow("no word, so no line: " + word, x, INDEX, () -> x.poke(word, 1));
        }
        checks.due("a word that it stored, as memory has it", 0, x.poke(0, 8));
        checks.due("broken off", 1, x.records());
        checks.due("it sees memory", 8, x.seen(0, 0));
    }

    // Promise 6: "A core is picked so many times, as long as it runs: how many instructions it retired.
    // IllegalArgument: they are not 0 .. 2000."

    private void pickTimes() {
        CoreTransactions x = made(2, 0, 1, row(MORE, 2, 2, 1), row(JUMP, 0, 0, 0));
        int[] times = {0, 1, 2, 1999, 2000};
        int all = 0;
        for (int many : times) {
            checks.due("pick(1, " + many + ")", many, x.pick(1, many));
            all += many;
            checks.due("retired", all, x.told(1, RETIRED));
            checks.due("r 2", (all + 1) / 2, x.register(1, 2));
        }
        for (int many : NO_PICKS) {
            checks.dueThrow("pick(1, " + many + ")", x, ILLEGAL, () -> x.pick(1, many));
            for (int core : noCores(2)) {
                checks.dueThrow("pick of no core, no times", x, INDEX, () -> x.pick(core, many));
            }
        }
        checks.due("the other was not picked", 0, x.told(0, RETIRED));
    }

    private void pickAsLongAsItRuns() {
        for (int length = 0; length <= 6; length++) {
            CoreTransactions x = new CoreTransactions(1, 0, 1);
            for (int n = 0; n < length; n++) {
                x.instruction(SET, 2, 0, n);
            }
            x.instruction(HALT, 0, 0, 0);
            for (int times = 0; times <= 9; times++) {
                x.start(0, 0);
                int due = Math.min(times, length + 1);
                checks.due("pick " + times + " of " + length + " and HALT", due, x.pick(0, times));
                checks.due("ended", times > length ? 1 : 0, x.told(0, ENDED));
            }
            checks.due("ended, no more", 0, x.pick(0, 2000));
            checks.dueThrow("ended, and 2001 times", x, ILLEGAL, () -> x.pick(0, 2001));
        }
        int[] due = {0, 1, 1, 2, 2, 3};
        for (int times = 0; times < due.length; times++) {
            CoreTransactions x = made(1, 0, 1, row(BEGIN, 0, 0, 0), row(ABORT, 0, 0, 0));
            checks.due("a pick that breaks off is one of " + times, due[times], x.pick(0, times));
        }
    }

    // Promise 7: "by a seed: it becomes itself times 1103515245 and 12345 (running over); its highest 16 bits' rest by
    // the number of cores is the core, which does nothing if it has ended: how many instructions were retired."

    private void runPicks() {
        CoreTransactions x = made(1, 0, 1, row(MORE, 2, 2, 1), row(JUMP, 0, 0, 0));
        int[] picks = {0, 1, 2, 1999, 2000};
        for (int many : picks) {
            checks.due("run(5, " + many + ")", many, x.run(5, many));
        }
        checks.due("retired", 4002, x.told(0, RETIRED));
        int[] seeds = {MIN, -1, 0, MAX};
        for (int many : NO_PICKS) {
            for (int seed : seeds) {
                checks.dueThrow("run(" + seed + ", " + many + ")", x, ILLEGAL, () -> x.run(seed, many));
            }
        }
    }

    /** Worked out by hand: 1 becomes 1103527590, then 2524885223, whose highest bit is 1; and so on. */
    private void runSeeds() {
        int[][] rows = {{1, 16838, 38526}, {0, 0, 54236}, {-1, 48697, 4409}};
        for (int[] one : rows) {
            for (int cores = 1; cores <= 4; cores++) {
                for (int picks = 1; picks <= 2; picks++) {
                    CoreTransactions x = made(cores, 0, 1, row(JUMP, 0, 0, 0));
                    checks.due("all retire", picks, x.run(one[0], picks));
                    for (int core = 0; core < cores; core++) {
                        int due = one[1] % cores == core ? 1 : 0;
                        due += picks == 2 && one[2] % cores == core ? 1 : 0;
                        checks.due("seed " + one[0] + " picks " + core + " of " + cores, due, x.told(core, RETIRED));
                    }
                    x.run(one[0], picks);
                    checks.due("the same again", 0, x.told(one[1] % cores, RETIRED) % 2);
                }
            }
        }
    }

    /** Seeds that become a number just inside and just outside of each of its highest 16 bits. */
    private void runHighestBits() {
        long[] states = {0L, 65535L, 65536L, 131071L, 131072L, 0x7FFFFFFFL, 0x80000000L, 0x8000FFFFL, 0x80010000L,
            0xFFFEFFFFL, 0xFFFF0000L, 0xFFFFFFFFL};
        for (long state : states) {
            int seed = seedThatBecomes(state);
            for (int cores = 1; cores <= 4; cores++) {
                CoreTransactions x = made(cores, 0, 1, row(JUMP, 0, 0, 0));
                checks.due("one pick", 1, x.run(seed, 1));
                int core = (int) ((state / 65536L) % cores);
                checks.due("it becomes " + state + ": core " + core, 1, x.told(core, RETIRED));
            }
        }
    }

    /** The bits of the seed from the lowest on: each decides the same bit of what it becomes, the factor being odd. */
    private static int seedThatBecomes(long state) {
        long seed = 0;
        for (int bit = 0; bit < 32; bit++) {
            long become = seed * 1103515245L + 12345L;
            if (((become ^ state) >> bit & 1L) == 1L) {
                seed |= 1L << bit;
            }
        }
        return (int) seed;
    }

    private void runOfEndedCores() {
        CoreTransactions x = made(2, 0, 1, row(HALT, 0, 0, 0), row(JUMP, 0, 0, 1));
        checks.due("both HALT, then nothing", 2, x.run(3, 2000));
        checks.due("nothing", 0, x.run(3, 2000));
        checks.due("place of 0", 1, x.told(0, PLACE));
        checks.due("place of 1", 1, x.told(1, PLACE));
        x.start(1, 1);
        int retired = x.run(1, 2000);
        checks.due("the one that runs alone", retired, x.told(1, RETIRED) - 1);
        checks.due("some picks are of the ended one", 1, retired > 0 && retired < 2000 ? 1 : 0);
        checks.due("the ended one", 1, x.told(0, RETIRED));
        CoreTransactions broken = made(1, 0, 1, row(BEGIN, 0, 0, 0), row(ABORT, 0, 0, 0));
        checks.due("what is broken off is not retired", 1000, broken.run(8, 2000));
        checks.due("but recorded", 1000, broken.told(0, BROKEN_OFF));
    }

    // Promises 8 to 11, 13: asking, inside and outside

    private void askingChangesNothing() {
        CoreTransactions x = made(2, 0, 1, row(BEGIN, 0, 0, 30), row(STORE, 2, 0, 5));
        x.set(0, 2, 7);
        x.pick(0, 2);
        for (int n = 0; n < 3; n++) {
            checks.due("the same answers", 1, Checks.stateOf(x).equals(Checks.stateOf(x)) ? 1 : 0);
        }
        checks.due("no line is read", 0, x.told(0, READ) + x.told(1, READ));
        checks.due("nothing is broken off", 1, x.told(0, DEEP));
    }

    private void wordAndSeen() {
        CoreTransactions x = made(2, 2, 4, row(BEGIN, 0, 0, 30), row(STORE, 2, 0, 0), row(STORE, 2, 0, 63),
                row(STORE, 2, 0, 31), row(STORE, 2, 0, 32));
        for (int word = 0; word < 64; word++) {
            x.poke(word, 100 + word);
        }
        x.set(1, 2, -9);
        x.pick(1, 5);
        for (int word = 0; word < 64; word++) {
            boolean stored = word == 0 || word == 63 || word == 31 || word == 32;
            checks.due("word " + word, 100 + word, x.word(word));
            checks.due("seen by the other " + word, 100 + word, x.seen(0, word));
            checks.due("seen by itself " + word, stored ? -9 : 100 + word, x.seen(1, word));
        }
        for (int word : NO_WORDS) {
            checks.dueThrow("word(" + word + ")", x, INDEX, () -> x.word(word));
            checks.dueThrow("seen(1, " + word + ")", x, INDEX, () -> x.seen(1, word));
            checks.dueThrow("seen(2, " + word + ")", x, INDEX, () -> x.seen(2, word));
        }
    }

    private void toldFacts() {
        CoreTransactions x = made(3, 0, 2, row(BEGIN, 0, 0, 30), row(LOAD, 2, 0, 0));
        x.pick(2, 2);
        int[] wrong = {MIN, -1, 10, 11, MAX};
        for (int what : wrong) {
            for (int core = 0; core < 3; core++) {
                int asked = core;
                checks.dueThrow("told(" + core + ", " + what + ")", x, ILLEGAL, () -> x.told(asked, what));
            }
            for (int core : noCores(3)) {
                checks.dueThrow("told of no core and fact", x, INDEX, () -> x.told(core, what));
            }
        }
        int[] due = {2, 0, 2, 1, 1, 1, 0, 0, 0, 0};
        for (int what = 0; what < 10; what++) {
            checks.due("told(2, " + what + ")", due[what], x.told(2, what));
            checks.due("told(0, " + what + ")", 0, x.told(0, what));
        }
    }

    /** Each fact in its place, all of them not alike. */
    private void recordOfEachKind() {
        CoreTransactions x = made(4, 0, 1, row(HALT, 0, 0, 0), row(BEGIN, 0, 0, 0), row(ABORT, 2, 0, 0),
                row(BEGIN, 0, 0, 70), row(BEGIN, 0, 0, 71), row(LOAD, 0, 0, 99), row(BEGIN, 0, 0, 70),
                row(HALT, 0, 0, 0));
        x.set(3, 2, -1000);
        x.start(3, 1);
        x.pick(3, 2);
        x.start(1, 3);
        x.pick(1, 3);
        x.start(2, 4);
        x.pick(2, 2);
        x.start(0, 6);
        x.pick(0, 2);
        checks.due("four", 4, x.records());
        checks.dueRecord(x, 0, 3, 1, -744, 1);
        checks.dueRecord(x, 1, 1, 3, FAULT, 2);
        checks.dueRecord(x, 2, 2, 4, FAULT, 3);
        checks.dueRecord(x, 3, 0, 6, HALTED, 4);
        int[] noRecords = {MIN, -1, 4, 5, 99, 100, MAX};
        int[] noFacts = {MIN, -1, 4, 5, MAX};
        for (int k : noRecords) {
            checks.dueThrow("record(" + k + ", 0)", x, INDEX, () -> x.record(k, 0));
            checks.dueThrow("record(" + k + ", 3)", x, INDEX, () -> x.record(k, 3));
            checks.dueThrow("record(" + k + ", 4)", x, INDEX, () -> x.record(k, 4));
            checks.dueThrow("record(" + k + ", -1)", x, INDEX, () -> x.record(k, -1));
        }
        for (int what : noFacts) {
            checks.dueThrow("record(0, " + what + ")", x, ILLEGAL, () -> x.record(0, what));
            checks.dueThrow("record(3, " + what + ")", x, ILLEGAL, () -> x.record(3, what));
        }
    }

    private void recordsFromNoneTo100() {
        CoreTransactions x = made(1, 0, 1, row(BEGIN, 0, 0, 0), row(ABORT, 0, 0, 0));
        checks.dueThrow("none: record(0, 4)", x, INDEX, () -> x.record(0, 4));
        for (int n = 1; n <= 102; n++) {
            x.pick(0, 2);
            int due = Math.min(n, 100);
            checks.due("behind " + n, due, x.records());
            checks.due("the oldest", n - due + 1, x.record(0, 3));
            checks.due("the newest", n, x.record(due - 1, 3));
            checks.dueThrow("behind the newest of " + n, x, INDEX, () -> x.record(due, 3));
            checks.dueThrow("before the oldest of " + n, x, INDEX, () -> x.record(-1, 3));
        }
    }

    // Promise 14: "All is as at first."

    private void clearOfAFullObject() {
        CoreTransactions x = fullObject();
        for (int core = 0; core < 4; core++) {
            for (int register = 1; register < 8; register++) {
                checks.due("a register is not 0 before", 0, x.register(core, register) == 0 ? 1 : 0);
            }
            for (int what = 0; what < 10; what++) {
                checks.due("told " + what + " is 0 before", what == ENDED ? 1 : 0, x.told(core, what) == 0 ? 1 : 0);
            }
        }
        for (int word = 0; word < 64; word++) {
            checks.due("a word is not 0 before", 0, x.word(word) == 0 || x.seen(3, word) == 0 ? 1 : 0);
        }
        checks.due("as many records as are kept", 100, x.records());
        checks.dueThrow("as many instructions as may be", x, UNSUPPORTED, () -> x.instruction(END, 0, 0, 0));
        x.start(1, 79);
        x.pick(1, 1);
        checks.due("one has ended", 1, x.told(1, ENDED));
        x.clear();
        CoreTransactions fresh = new CoreTransactions(4, 2, 4);
        checks.due("as at first", 1, Checks.stateOf(x).equals(Checks.stateOf(fresh)) ? 1 : 0);
        checks.dueThrow("no record", x, INDEX, () -> x.record(0, 0));
        checks.due("no instruction", 0, x.pick(3, 1));
        checks.due("so a fault", 1, x.told(3, ENDED));
        for (int n = 0; n < 80; n++) {
            checks.due("room for 80", n, x.instruction(n == 0 ? BEGIN : n == 1 ? ABORT : END, 0, 0, 4));
        }
        checks.dueThrow("not for 81", x, UNSUPPORTED, () -> x.instruction(END, 0, 0, 0));
        checks.due("an ended core runs", 1, x.pick(1, 1));
        checks.due("ages from 1 on", 1, x.told(1, AGE));
        x.pick(1, 1);
        checks.dueRecord(x, 0, 1, 0, 256, 1);
        checks.due("records from 0 on", 1, x.records());
    }

    /** All that is at first 0 is another number, but that no core has ended. */
    private static CoreTransactions fullObject() {
        CoreTransactions x = made(4, 2, 4, row(BEGIN, 0, 0, 2), row(ABORT, 2, 0, 0), row(BEGIN, 0, 0, 4),
                row(END, 0, 0, 0), row(BEGIN, 0, 0, 2), row(LOAD, 0, 6, 0), row(STORE, 3, 6, 0), row(JUMP, 0, 0, 2));
        for (int n = 8; n < 80; n++) {
            x.instruction(HALT, 0, 0, 0);
        }
        for (int word = 0; word < 64; word++) {
            x.poke(word, 100 + word);
        }
        for (int core = 0; core < 4; core++) {
            for (int register = 1; register < 8; register++) {
                x.set(core, register, 4 * core + register);
            }
            x.set(core, 6, 1 + 8 * core);
            for (int n = 0; n < 30; n++) {
                x.start(core, 0);
                x.pick(core, 2);
            }
            x.pick(core, 5);
        }
        return x;
    }

    private void clearKeepsTheShape() {
        CoreTransactions x = new CoreTransactions(3, 1, 3);
        for (int n = 0; n < 3; n++) {
            checks.due("three cores", 3, Checks.coresOf(x));
            Checks.program(x, row(BEGIN, 0, 0, 30), row(LOAD, 2, 3, 0), row(MORE, 3, 3, 4), row(JUMP, 0, 0, 1));
            x.pick(2, 1 + 3 * 6);
            checks.due("six lines", 6, x.told(2, READ));
            x.pick(2, 1);
            checks.due("not seven", NO_ROOM, x.register(2, 1));
            x.clear();
        }
        x.clear();
        for (int answer : Checks.stateOf(x)) {
            checks.due("cleared twice", 0, answer);
        }
    }

    // "A call that throws changes nothing."

    private void throwsChangeNothing() {
        for (int full = 0; full < 2; full++) {
            CoreTransactions x = busy(full == 1);
            CoreTransactions twin = busy(full == 1);
            refusedCalls(x, full == 1);
            checks.due("the same state", 1, Checks.stateOf(x).equals(Checks.stateOf(twin)) ? 1 : 0);
            if (full == 0) {
                checks.due("the next instruction", twin.instruction(END, 0, 0, 0), x.instruction(END, 0, 0, 0));
            }
            for (int seed = 0; seed < 10; seed++) {
                checks.due("the same run", twin.run(seed, 40), x.run(seed, 40));
                checks.due("the same state behind it", 1, Checks.stateOf(x).equals(Checks.stateOf(twin)) ? 1 : 0);
            }
        }
    }

    /** Cores in transactions on the first and the last line, one that has ended, and as many records as are kept. */
    private static CoreTransactions busy(boolean full) {
        CoreTransactions x = made(4, 0, 4, row(BEGIN, 0, 0, 0), row(LOAD, 2, 0, 0), row(LOAD, 2, 0, 62),
                row(STORE, 3, 0, 30), row(MORE, 3, 3, 1), row(BEGIN, 0, 0, 1), row(STORE, 3, 0, 40), row(END, 0, 0, 0),
                row(END, 0, 0, 0), row(JUMP, 0, 0, 0), row(BEGIN, 0, 0, 10), row(ABORT, 3, 0, 0), row(HALT, 0, 0, 0));
        for (int n = 13; n < (full ? 80 : 79); n++) {
            x.instruction(JUMP, 0, 0, 0);
        }
        x.start(2, 10);
        x.pick(2, 250);
        x.start(3, 12);
        x.pick(3, 1);
        x.set(1, 3, 17);
        x.pick(0, 3);
        x.pick(1, 6);
        x.start(2, 0);
        x.pick(2, 2);
        return x;
    }

    private void refusedCalls(CoreTransactions x, boolean full) {
        int[] no = {MIN, -1, MAX};
        for (int wrong : no) {
            checks.dueThrow("instruction", x, ILLEGAL, () -> x.instruction(wrong, 0, 0, 0));
            checks.dueThrow("instruction, r a", x, ILLEGAL, () -> x.instruction(MORE, wrong, 0, 0));
            checks.dueThrow("start, place", x, ILLEGAL, () -> x.start(0, wrong));
            checks.dueThrow("start, core", x, INDEX, () -> x.start(wrong, 0));
            checks.dueThrow("set, core", x, INDEX, () -> x.set(wrong, 3, 1));
            checks.dueThrow("set, register", x, INDEX, () -> x.set(0, wrong, 1));
            checks.dueThrow("poke", x, INDEX, () -> x.poke(wrong, 1));
            checks.dueThrow("pick, core", x, INDEX, () -> x.pick(wrong, 1));
            checks.dueThrow("pick, times", x, ILLEGAL, () -> x.pick(0, wrong));
            checks.dueThrow("run", x, ILLEGAL, () -> x.run(1, wrong));
            checks.dueThrow("register, core", x, INDEX, () -> x.register(wrong, 1));
            checks.dueThrow("register", x, INDEX, () -> x.register(0, wrong));
            checks.dueThrow("word", x, INDEX, () -> x.word(wrong));
            checks.dueThrow("seen, core", x, INDEX, () -> x.seen(wrong, 0));
            checks.dueThrow("seen, word", x, INDEX, () -> x.seen(0, wrong));
            checks.dueThrow("told, core", x, INDEX, () -> x.told(wrong, 0));
            checks.dueThrow("told, what", x, ILLEGAL, () -> x.told(0, wrong));
            checks.dueThrow("record", x, INDEX, () -> x.record(wrong, 0));
            checks.dueThrow("record, what", x, ILLEGAL, () -> x.record(0, wrong));
        }
        checks.dueThrow("start(1, 81)", x, ILLEGAL, () -> x.start(1, 81));
        checks.dueThrow("poke(64, 1)", x, INDEX, () -> x.poke(64, 1));
        checks.dueThrow("pick(0, 2001)", x, ILLEGAL, () -> x.pick(0, 2001));
        checks.dueThrow("run(1, 2001)", x, ILLEGAL, () -> x.run(1, 2001));
        if (full) {
            checks.dueThrow("the 81st", x, UNSUPPORTED, () -> x.instruction(END, 0, 0, 0));
        }
    }
}
