/** Each promise of the document, with answers worked out by hand. */
public final class PromisesTest implements Names {
    private final Checks checks = new Checks();

    public static void main(String[] args) {
        PromisesTest test = new PromisesTest();
        test.promise1NewObject();
        test.promise1Sets();
        test.promise1Ways();
        test.promise2Registers();
        test.promise2Limit();
        test.termsArithmetic();
        test.termsMemory();
        test.termsJumps();
        test.termsFaults();
        test.termsHalt();
        test.termsNesting();
        test.termsAbort();
        test.termsCommit();
        test.termsRegistersKept();
        test.termsConflictOfTransactions();
        test.termsConflictOutside();
        test.termsConflictMixedAges();
        test.termsConflictBeforeRoom();
        test.termsRoom();
        test.promise3Start();
        test.promise4Set();
        test.promise5Poke();
        test.promise6Pick();
        test.promise7Run();
        test.promises8To10Asking();
        test.promise11Told();
        test.promises12And13Records();
        test.promise14Clear();
        test.checks.end("PromisesTest");
    }

    private void promise1NewObject() {
        checks.due("NONE", -1, CoreTransactions.NONE);
        int[][] coresDue = {{MIN, 1}, {-1, 1}, {0, 1}, {1, 1}, {2, 2}, {3, 3}, {4, 4}, {5, 4}, {MAX, 4}};
        for (int[] row : coresDue) {
            CoreTransactions x = new CoreTransactions(row[0], 0, 1);
            checks.due("cores of " + row[0], row[1], Checks.coresOf(x));
            for (int answer : Checks.stateOf(x)) {
                checks.due("an answer of a new object", 0, answer);
            }
            checks.due("no instruction: retired", 0, x.pick(0, 1));
            checks.due("no instruction: ended", 1, x.told(0, ENDED));
            checks.due("the first instruction", 0, x.instruction(END, 0, 0, 0));
        }
    }

    /** With one way, two lines n apart fit if they are of other sets. */
    private void promise1Sets() {
        int[][] setsDue = {{MIN, 1}, {-1, 1}, {0, 1}, {1, 2}, {2, 4}, {3, 4}, {MAX, 4}};
        for (int[] row : setsDue) {
            for (int apart = 1; apart <= 4; apart++) {
                CoreTransactions x = new CoreTransactions(1, row[0], 1);
                Checks.program(x, new int[][] {{BEGIN, 0, 0, 5}, {LOAD, 2, 0, 7}, {LOAD, 3, 0, 7 + 4 * apart}});
                x.pick(0, 3);
                boolean sameSet = apart % row[1] == 0;
                checks.due("sets " + row[0] + ", lines " + apart + " apart", sameSet ? 0 : 1, x.told(0, DEEP));
                checks.due("its code", sameSet ? 3 : 0, x.register(0, 1));
            }
        }
    }

    private void promise1Ways() {
        int[][] waysDue = {{MIN, 1}, {-1, 1}, {0, 1}, {1, 1}, {2, 2}, {3, 3}, {4, 4}, {5, 4}, {MAX, 4}};
        for (int[] row : waysDue) {
            CoreTransactions x = new CoreTransactions(1, 0, row[0]);
            Checks.program(x, new int[][] {{BEGIN, 0, 0, 9}, {LOAD, 2, 0, 0}, {LOAD, 2, 0, 4}, {LOAD, 2, 0, 8},
                    {LOAD, 2, 0, 12}, {LOAD, 2, 0, 16}});
            checks.due("ways " + row[0], row[1] + 1, x.pick(0, row[1] + 1));
            checks.due("still in it", 1, x.told(0, DEEP));
            checks.due("its lines", row[1], x.told(0, READ));
            checks.due("one line more", 0, x.pick(0, 1));
            checks.due("broken off", 1, x.told(0, BROKEN_OFF));
            checks.due("code", 3, x.register(0, 1));
        }
    }

    private void promise2Registers() {
        String named = "a  ;abc;abc;abc;ab ;ab ;ab ;ab ;ab ;   ;   ;   ;a  ;   ";
        String[] names = named.split(";");
        CoreTransactions x = new CoreTransactions(1, 0, 1);
        int[] wrongOperations = {MIN, -1, 14, MAX};
        for (int operation : wrongOperations) {
            checks.dueThrow("instruction(" + operation + ")", x, ILLEGAL, () -> x.instruction(operation, 0, 0, 0));
        }
        int[] wrongRegisters = {MIN, -1, 8, MAX};
        int number = 0;
        for (int operation = SET; operation <= HALT; operation++) {
            for (int wrong : wrongRegisters) {
                for (int field = 0; field < 3; field++) {
                    int op = operation;
                    int a = field == 0 ? wrong : 7;
                    int b = field == 1 ? wrong : 7;
                    int c = field == 2 ? wrong : 7;
                    String call = "instruction(" + op + ", " + a + ", " + b + ", " + c + ")";
                    if (names[operation].charAt(field) != ' ') {
                        checks.dueThrow(call, x, ILLEGAL, () -> x.instruction(op, a, b, c));
                    } else {
                        checks.due(call, number, x.instruction(op, a, b, c));
                        number = number + 1;
                    }
                    if (number == 70) {
                        x.clear();
                        number = 0;
                    }
                }
            }
        }
        checks.due("behind the others", number, x.instruction(SET, 0, 0, 0));
    }

    private void promise2Limit() {
        CoreTransactions x = new CoreTransactions(1, 0, 1);
        for (int n = 0; n < 80; n++) {
            checks.due("instruction", n, x.instruction(MORE, 2, 2, 1));
        }
        checks.dueThrow("the 81st", x, UNSUPPORTED, () -> x.instruction(MORE, 2, 2, 1));
        checks.dueThrow("the 81st, wrong", x, ILLEGAL, () -> x.instruction(14, 2, 2, 1));
        checks.dueThrow("the 81st, wrong register", x, ILLEGAL, () -> x.instruction(MORE, 8, 2, 1));
        checks.due("all 80, then a fault", 80, x.pick(0, 2000));
        checks.due("place", 80, x.told(0, PLACE));
        checks.due("r 2", 80, x.register(0, 2));
        x.clear();
        checks.due("the first again", 0, x.instruction(MORE, 2, 2, 1));
    }

    private void termsArithmetic() {
        CoreTransactions x = new CoreTransactions(1, 0, 1);
        Checks.program(x, new int[][] {{SET, 2, 0, MAX}, {SET, 3, 0, 5}, {ADD, 4, 2, 3}, {SUB, 5, 3, 2},
                {SUB, 6, 4, 3},
                {MUL, 7, 2, 3}, {MORE, 1, 2, 1}, {SET, 0, 0, 9}, {ADD, 0, 2, 3}, {MORE, 0, 0, 3}, {ADD, 3, 3, 3},
                {ADD, 2, 0, 0}, {HALT, 0, 0, 0}});
        checks.due("arithmetic retired", 13, x.pick(0, 20));
        int[] due = {0, MIN, 0, 10, MAX + 5, 5 - MAX, MAX, MAX * 5};
        for (int register = 0; register < 8; register++) {
            checks.due("r " + register, due[register], x.register(0, register));
        }
    }

    private void termsMemory() {
        CoreTransactions x = new CoreTransactions(1, 0, 1);
        Checks.program(x, new int[][] {{SET, 2, 0, 60}, {SET, 3, 0, 42}, {STORE, 3, 2, 3}, {STORE, 2, 2, -60},
                {LOAD, 4, 2, 3}, {LOAD, 5, 0, 0}, {LOAD, 0, 0, 0}, {SET, 6, 0, MIN}, {LOAD, 7, 6, MIN},
                {STORE, 0, 0, 63}, {HALT, 0, 0, 0}});
        checks.due("memory: what comes before", 2, x.pick(0, 2));
        checks.due("word 63 before", 0, x.word(63));
        checks.due("memory: store", 1, x.pick(0, 1));
        checks.due("word 63", 42, x.word(63));
        checks.due("memory retired", 8, x.pick(0, 20));
        checks.due("word 63 behind", 0, x.word(63));
        checks.due("word 0", 60, x.word(0));
        checks.due("r 4", 42, x.register(0, 4));
        checks.due("r 5", 60, x.register(0, 5));
        checks.due("r 0", 0, x.register(0, 0));
        checks.due("r 7, its word running over", 60, x.register(0, 7));
        checks.due("no lines without a transaction", 0, x.told(0, READ) + x.told(0, WRITTEN) + x.told(0, STORED));
    }

    private void termsJumps() {
        int[][] due = {{LESS, 1, 2, 10}, {LESS, 2, 2, 1}, {LESS, 3, 2, 1}, {LESS, MIN, MAX, 10}, {OTHER, 1, 2, 10},
                {OTHER, 2, 2, 1}, {OTHER, 3, 2, 10}, {JUMP, 5, 5, 10}};
        for (int[] row : due) {
            CoreTransactions x = new CoreTransactions(1, 0, 1);
            x.instruction(row[0], 2, 3, 10);
            x.set(0, 2, row[1]);
            x.set(0, 3, row[2]);
            checks.due("a jump is retired", 1, x.pick(0, 1));
            checks.due("jump " + row[0] + " of " + row[1] + ", " + row[2], row[3], x.told(0, PLACE));
            checks.due("it runs", 0, x.told(0, ENDED));
        }
        CoreTransactions x = new CoreTransactions(1, 0, 1);
        x.instruction(JUMP, 99, -99, MIN);
        checks.due("a jump to nowhere is retired", 1, x.pick(0, 2));
        checks.due("and its place stays there", MIN, x.told(0, PLACE));
        checks.due("a fault", 1, x.told(0, ENDED));
    }

    private void termsFaults() {
        int[][] faults = {{LOAD, 2, 3, 64}, {LOAD, 2, 3, -1}, {STORE, 2, 3, 64}, {STORE, 2, 3, -1}, {LOAD, 2, 3, MIN},
                {STORE, 2, 3, MAX}, {JUMP, 0, 0, -1}, {JUMP, 0, 0, 3}, {JUMP, 0, 0, MAX}};
        for (int[] row : faults) {
            boolean jumps = row[0] == JUMP;
            CoreTransactions x = new CoreTransactions(1, 0, 1);
            Checks.program(x, new int[][] {{SET, 2, 0, 7}, {BEGIN, 0, 0, 0}, row});
            x.start(0, 2);
            checks.due("fault outside: retired", jumps ? 1 : 0, x.pick(0, 5));
            checks.due("fault outside: ended", 1, x.told(0, ENDED));
            checks.due("fault outside: place", jumps ? row[3] : 2, x.told(0, PLACE));
            checks.due("fault outside: records", 0, x.records());
            x.start(0, 1);
            checks.due("fault within: retired", jumps ? 2 : 1, x.pick(0, jumps ? 3 : 2));
            checks.due("fault within: runs", 0, x.told(0, ENDED));
            checks.due("fault within: place", 0, x.told(0, PLACE));
            checks.due("fault within: r 1", 1, x.register(0, 1));
            checks.dueRecord(x, 0, 0, 1, 1, 1);
            checks.due("fault within: it goes on", 1, x.pick(0, 1));
            checks.due("fault within: r 2", 7, x.register(0, 2));
        }
        CoreTransactions x = new CoreTransactions(1, 0, 1);
        checks.due("no program", 0, x.pick(0, 1));
        x.instruction(HALT, 0, 0, 0);
        checks.due("an ended core stays so", 0, x.pick(0, 5));
        x.start(0, 0);
        checks.due("an instruction added later", 1, x.pick(0, 5));
    }

    private void termsHalt() {
        CoreTransactions x = new CoreTransactions(1, 0, 1);
        Checks.program(x, new int[][] {{HALT, 0, 0, 0}, {BEGIN, 0, 0, 4}, {MORE, 3, 3, 1}, {HALT, 0, 0, 0},
                {HALT, 0, 0, 0}});
        checks.due("HALT is retired", 1, x.pick(0, 9));
        checks.due("the next place is behind it", 1, x.told(0, PLACE));
        checks.due("ended", 1, x.told(0, ENDED));
        x.start(0, 1);
        checks.due("HALT within is not", 2, x.pick(0, 3));
        checks.due("it goes on", 4, x.told(0, PLACE));
        checks.due("it runs", 0, x.told(0, ENDED));
        checks.due("code 5", 5, x.register(0, 1));
        checks.due("r 3 is lost", 0, x.register(0, 3));
        checks.dueRecord(x, 0, 0, 1, 5, 1);
        checks.due("HALT behind", 1, x.pick(0, 3));
        checks.due("ended again", 1, x.told(0, ENDED));
    }

    private void termsNesting() {
        CoreTransactions x = new CoreTransactions(1, 0, 4);
        Checks.program(x, new int[][] {{END, 0, 0, 0}, {BEGIN, 0, 0, 30}, {STORE, 2, 0, 9}, {BEGIN, 0, 0, 40},
                {END, 0, 0, 0},
                {END, 0, 0, 0}, {END, 0, 0, 0}});
        x.set(0, 2, 6);
        checks.due("END without one", 1, x.pick(0, 1));
        checks.due("does nothing", 0, x.told(0, COMMITTED));
        checks.due("BEGIN, STORE, BEGIN", 3, x.pick(0, 3));
        checks.due("two deep", 2, x.told(0, DEEP));
        checks.due("its age stays", 1, x.told(0, AGE));
        checks.due("an END", 1, x.pick(0, 1));
        checks.due("one deep", 1, x.told(0, DEEP));
        checks.due("not yet", 0, x.word(9) + x.told(0, COMMITTED));
        checks.due("the last END", 1, x.pick(0, 1));
        checks.due("now", 6, x.word(9));
        checks.due("committed", 1, x.told(0, COMMITTED));
        checks.due("none any more", 0, x.told(0, DEEP) + x.told(0, AGE) + x.told(0, WRITTEN) + x.told(0, STORED));

        x.clear();
        Checks.program(x, new int[][] {{SET, 5, 0, 1}, {BEGIN, 0, 0, 10}, {JUMP, 0, 0, 3}, {BEGIN, 0, 0, 20},
                {JUMP, 0, 0, 3}});
        checks.due("eight deep", 2 + 1 + 7 * 2, x.pick(0, 17));
        checks.due("depth", 8, x.told(0, DEEP));
        checks.due("the ninth", 0, x.pick(0, 1));
        checks.due("no depth", 0, x.told(0, DEEP));
        checks.due("the first one's place to go on", 10, x.told(0, PLACE));
        checks.due("code 2", 2, x.register(0, 1));
        checks.due("kept r 5", 1, x.register(0, 5));
        checks.dueRecord(x, 0, 0, 1, 2, 1);
        x.start(0, 1);
        x.pick(0, 1);
        checks.due("the next age", 2, x.told(0, AGE));
    }

    private void termsAbort() {
        int[][] codes = {{0, 256}, {7, 263}, {-256, 0}, {MAX, MAX + 256}};
        for (int[] row : codes) {
            CoreTransactions x = new CoreTransactions(1, 0, 1);
            Checks.program(x, new int[][] {{ABORT, 2, 0, 0}, {BEGIN, 0, 0, 3}, {ABORT, 2, 0, 0}, {ABORT, 2, 0, 0}});
            x.set(0, 2, row[0]);
            checks.due("ABORT without one, BEGIN", 2, x.pick(0, 2));
            checks.due("ABORT within", 0, x.pick(0, 1));
            checks.due("its code", row[1], x.register(0, 1));
            checks.due("its place", 3, x.told(0, PLACE));
            checks.dueRecord(x, 0, 0, 1, row[1], 1);
            checks.due("ABORT behind", 1, x.pick(0, 1));
            checks.due("does nothing", 1, x.records());
        }
        CoreTransactions x = new CoreTransactions(1, 0, 1);
        Checks.program(x, new int[][] {{BEGIN, 0, 0, 3}, {BEGIN, 0, 0, 4}, {ABORT, 0, 0, 0}});
        x.pick(0, 3);
        checks.due("ABORT breaks off both", 0, x.told(0, DEEP));
        checks.due("one record", 1, x.records());
        checks.due("r 0 and 256", 256, x.register(0, 1));
    }

    private void termsCommit() {
        CoreTransactions x = new CoreTransactions(2, 0, 4);
        Checks.program(x, new int[][] {{BEGIN, 0, 0, 9}, {STORE, 2, 0, 8}, {STORE, 3, 0, 8}, {STORE, 3, 0, 11},
                {LOAD, 4, 0, 8}, {STORE, 0, 0, 63}, {END, 0, 0, 0}});
        x.poke(63, 5);
        x.set(0, 2, 20);
        x.set(0, 3, 30);
        x.pick(0, 6);
        checks.due("what it stored itself", 30, x.register(0, 4));
        checks.due("its line is read", 1, x.told(0, READ));
        checks.due("lines written", 2, x.told(0, WRITTEN));
        checks.due("words stored", 3, x.told(0, STORED));
        checks.due("memory yet", 0, x.word(8) + x.word(11));
        checks.due("another core sees memory", 5, x.seen(1, 63));
        checks.due("it sees its own", 30, x.seen(0, 8));
        checks.due("and its 0", 0, x.seen(0, 63));
        checks.due("word 63 yet", 5, x.word(63));
        checks.due("END", 1, x.pick(0, 1));
        checks.due("word 8", 30, x.word(8));
        checks.due("word 9", 0, x.word(9));
        checks.due("word 11", 30, x.word(11));
        checks.due("word 63", 0, x.word(63));
        checks.due("another sees it", 30, x.seen(1, 8));
        x.poke(8, 1);
        x.start(0, 0);
        x.pick(0, 1);
        checks.due("nothing is left for the next one", 1, x.seen(0, 8));

        for (int word = 0; word < 64; word++) {
            x.clear();
            Checks.program(x, new int[][] {{BEGIN, 0, 0, 9}, {STORE, 2, 0, word}, {END, 0, 0, 0}});
            x.set(0, 2, 100 + word);
            x.pick(0, 3);
            for (int other = 0; other < 64; other++) {
                checks.due("commit of " + word + ": " + other, other == word ? 100 + word : 0, x.word(other));
            }
        }
    }

    private void termsRegistersKept() {
        CoreTransactions x = new CoreTransactions(1, 0, 1);
        Checks.program(x, new int[][] {{BEGIN, 0, 0, 3}, {SET, 7, 0, 70}, {ABORT, 0, 0, 0}, {BEGIN, 0, 0, 6},
                {SET, 6, 0, 60},
                {END, 0, 0, 0}});
        for (int register = 1; register < 8; register++) {
            x.set(0, register, register);
        }
        x.pick(0, 1);
        x.set(0, 2, 22);
        x.pick(0, 2);
        int[] due = {0, 256, 2, 3, 4, 5, 6, 7};
        for (int register = 0; register < 8; register++) {
            checks.due("kept r " + register, due[register], x.register(0, register));
        }
        x.pick(0, 3);
        checks.due("r 6 of a committed one", 60, x.register(0, 6));
        checks.due("r 1 of a committed one", 256, x.register(0, 1));
    }

    /** Core 0 is older than core 1; each row: the elder's access, the younger's, whether they conflict. */
    private void termsConflictOfTransactions() {
        int[][] rows = {{LOAD, LOAD, 0}, {LOAD, STORE, 1}, {STORE, LOAD, 1}, {STORE, STORE, 1}};
        for (int[] row : rows) {
            CoreTransactions x = new CoreTransactions(2, 0, 4);
            Checks.program(x, new int[][] {{BEGIN, 0, 0, 7}, {row[0], 2, 0, 5}, {END, 0, 0, 0}, {BEGIN, 0, 0, 8},
                    {row[1], 2, 0, 6}, {END, 0, 0, 0}});
            x.start(1, 3);
            x.pick(0, 2);
            x.pick(1, 1);
            checks.due("the younger behind the elder", 1 - row[2], x.pick(1, 1));
            checks.due("the younger's depth", 1 - row[2], x.told(1, DEEP));
            checks.due("the elder's depth", 1, x.told(0, DEEP));
            checks.due("records", row[2], x.records());
            if (row[2] == 1) {
                checks.dueRecord(x, 0, 1, 3, 4, 2);
                checks.due("no line is marked", 0, x.told(1, READ) + x.told(1, WRITTEN));
                checks.due("its place", 8, x.told(1, PLACE));
            }

            x.clear();
            Checks.program(x, new int[][] {{BEGIN, 0, 0, 7}, {row[0], 2, 0, 5}, {END, 0, 0, 0}, {BEGIN, 0, 0, 8},
                    {row[1], 2, 0, 6}, {END, 0, 0, 0}});
            x.start(1, 3);
            x.pick(0, 1);
            x.pick(1, 2);
            checks.due("the elder behind the younger", 1, x.pick(0, 1));
            checks.due("the elder's depth", 1, x.told(0, DEEP));
            checks.due("the elder's lines", 1, x.told(0, READ) + x.told(0, WRITTEN));
            checks.due("the younger's depth", 1 - row[2], x.told(1, DEEP));
            checks.due("its code", row[2] * 4, x.register(1, 1));
            checks.due("its place", row[2] == 1 ? 8 : 5, x.told(1, PLACE));
        }
    }

    private void termsConflictOutside() {
        int[][] rows = {{LOAD, LOAD, 0}, {LOAD, STORE, 1}, {STORE, LOAD, 1}, {STORE, STORE, 1}};
        for (int[] row : rows) {
            for (int word = 3; word <= 8; word++) {
                boolean breaks = row[2] == 1 && word / 4 == 1;
                CoreTransactions x = new CoreTransactions(4, 0, 4);
                Checks.program(x, new int[][] {{BEGIN, 0, 0, 7}, {row[0], 2, 0, 5}, {JUMP, 0, 0, 9},
                        {row[1], 3, 0, word}});
                x.start(2, 3);
                x.set(2, 3, 33);
                x.poke(5, 55);
                x.set(1, 2, 44);
                x.pick(1, 2);
                checks.due("an access without a transaction", 1, x.pick(2, 1));
                checks.due("breaks off", breaks ? 0 : 1, x.told(1, DEEP));
                checks.due("records", breaks ? 1 : 0, x.records());
                checks.due("the word", row[1] == STORE ? 33 : word == 5 ? 55 : 0, x.word(word));
                checks.due("its register", row[1] == STORE ? 33 : word == 5 ? 55 : 0, x.register(2, 3));
                checks.due("it has no lines", 0, x.told(2, READ) + x.told(2, WRITTEN) + x.told(2, STORED));
            }
        }
    }

    /** Core 1 is of the middle age: with an elder it alone goes, else all the younger ones do. */
    private void termsConflictMixedAges() {
        int[][] program = {{BEGIN, 0, 0, 20}, {LOAD, 2, 0, 0}, {STORE, 2, 0, 1}};
        CoreTransactions x = new CoreTransactions(4, 0, 4);
        Checks.program(x, program);
        x.pick(3, 2);
        x.pick(1, 2);
        x.pick(0, 2);
        checks.due("STORE with an elder", 0, x.pick(1, 1));
        checks.due("the elder", 1, x.told(3, DEEP));
        checks.due("itself", 0, x.told(1, DEEP));
        checks.due("the younger", 1, x.told(0, DEEP));
        checks.due("records", 1, x.records());
        checks.dueRecord(x, 0, 1, 0, 4, 2);

        x.clear();
        Checks.program(x, program);
        x.pick(1, 1);
        x.pick(3, 2);
        x.pick(2, 1);
        x.pick(0, 2);
        checks.due("LOAD", 1, x.pick(1, 1));
        checks.due("STORE without an elder", 1, x.pick(1, 1));
        checks.due("itself stays", 1, x.told(1, DEEP));
        checks.due("one that has not met the line stays", 1, x.told(2, DEEP));
        checks.due("records of both", 2, x.records());
        checks.dueRecord(x, 0, 0, 0, 4, 4);
        checks.dueRecord(x, 1, 3, 0, 4, 2);
        checks.due("their places", 40, x.told(0, PLACE) + x.told(3, PLACE));
    }

    private void termsConflictBeforeRoom() {
        CoreTransactions x = new CoreTransactions(2, 0, 1);
        Checks.program(x, new int[][] {{BEGIN, 0, 0, 20}, {LOAD, 2, 0, 0}, {STORE, 2, 0, 4}, {BEGIN, 0, 0, 30},
                {LOAD, 2, 0, 5}});
        x.pick(0, 2);
        x.start(1, 3);
        x.pick(1, 2);
        checks.due("no room behind a conflict", 0, x.pick(0, 1));
        checks.due("both are gone", 0, x.told(0, DEEP) + x.told(1, DEEP));
        checks.dueRecord(x, 0, 1, 3, 4, 2);
        checks.dueRecord(x, 1, 0, 0, 3, 1);

        x.clear();
        Checks.program(x, new int[][] {{BEGIN, 0, 0, 20}, {LOAD, 2, 0, 0}, {STORE, 2, 0, 4}, {BEGIN, 0, 0, 30},
                {LOAD, 2, 0, 5}});
        x.start(1, 3);
        x.pick(1, 2);
        x.pick(0, 2);
        checks.due("an elder before no room", 0, x.pick(0, 1));
        checks.dueRecord(x, 0, 0, 0, 4, 2);
        checks.due("the elder stays", 1, x.told(1, DEEP));
        checks.due("one record", 1, x.records());
    }

    /** Read and written lines count once in their set, and other sets have room of their own. */
    private void termsRoom() {
        CoreTransactions x = new CoreTransactions(1, 1, 2);
        Checks.program(x, new int[][] {{BEGIN, 0, 0, 20}, {LOAD, 2, 0, 0}, {STORE, 2, 0, 1}, {STORE, 2, 0, 8},
                {LOAD, 2, 0, 11},
                {LOAD, 2, 0, 4}, {STORE, 2, 0, 60}, {LOAD, 2, 0, 61}, {STORE, 2, 0, 16}});
        checks.due("two lines of each set", 8, x.pick(0, 8));
        checks.due("read", 4, x.told(0, READ));
        checks.due("written", 3, x.told(0, WRITTEN));
        checks.due("stored", 3, x.told(0, STORED));
        checks.due("a third in a set", 0, x.pick(0, 1));
        checks.dueRecord(x, 0, 0, 0, 3, 1);
        checks.due("no lines", 0, x.told(0, READ) + x.told(0, WRITTEN) + x.told(0, STORED));
        checks.due("nothing stored", 0, x.seen(0, 1) + x.word(1) + x.word(16));

        CoreTransactions one = new CoreTransactions(1, 0, 1);
        for (int line = 0; line < 16; line++) {
            for (int other = 0; other < 16; other++) {
                one.clear();
                Checks.program(one, new int[][] {{BEGIN, 0, 0, 9}, {LOAD, 2, 0, 4 * line},
                        {LOAD, 2, 0, 4 * other + 3}});
                checks.due("lines " + line + ", " + other + " in one way", line == other ? 3 : 2, one.pick(0, 3));
            }
        }
    }

    private void promise3Start() {
        CoreTransactions x = new CoreTransactions(2, 0, 2);
        int[] wrongCores = {MIN, -1, 2, MAX};
        int[] wrongPlaces = {MIN, -1, 81, MAX};
        Checks.program(x, new int[][] {{SET, 3, 0, 5}, {BEGIN, 0, 0, 9}, {SET, 3, 0, 6}, {STORE, 3, 0, 0},
                {LOAD, 2, 0, 4},
                {HALT, 0, 0, 0}});
        x.pick(0, 5);
        for (int wrong : wrongPlaces) {
            checks.dueThrow("start(0, " + wrong + ")", x, ILLEGAL, () -> x.start(0, wrong));
        }
        for (int wrong : wrongCores) {
            checks.dueThrow("start(" + wrong + ", 0)", x, INDEX, () -> x.start(wrong, 0));
            checks.dueThrow("start(" + wrong + ", -1)", x, INDEX, () -> x.start(wrong, -1));
        }
        checks.due("start: the place before", 5, x.start(0, 80));
        checks.due("the place", 80, x.told(0, PLACE));
        int left = 0;
        for (int what = DEEP; what <= BROKEN_OFF; what++) {
            left += x.told(0, what);
        }
        checks.due("the transaction is gone, unrecorded", 0, left + x.records());
        checks.due("its registers stay", 6, x.register(0, 3));
        checks.due("r 1 stays", 0, x.register(0, 1));
        checks.due("what it stored is gone", 0, x.word(0) + x.seen(0, 0));
        checks.due("retired stays", 5, x.told(0, RETIRED));
        x.poke(4, 1);
        checks.due("its lines are gone", 0, x.records());
        checks.due("ended by a fault", 0, x.pick(0, 1));
        checks.due("start of an ended core", 80, x.start(0, 0));
        checks.due("it runs", 0, x.told(0, ENDED));
        checks.due("it runs on", 2, x.pick(0, 2));
        checks.due("its next transaction's age", 2, x.told(0, AGE));
        checks.due("the other core", 0, x.start(1, 1));
    }

    private void promise4Set() {
        CoreTransactions x = new CoreTransactions(2, 0, 2);
        for (int register = 0; register < 8; register++) {
            checks.due("set: what it was", 0, x.set(1, register, 10 + register));
        }
        checks.due("r 0 was", 0, x.set(1, 0, 3));
        checks.due("r 0 stays", 0, x.register(1, 0));
        for (int register = 1; register < 8; register++) {
            checks.due("set", 10 + register, x.register(1, register));
            checks.due("not of the other", 0, x.register(0, register));
            checks.due("set again: what it was", 10 + register, x.set(1, register, MIN));
        }
        int[] wrongCores = {MIN, -1, 2, MAX};
        int[] wrongRegisters = {MIN, -1, 8, MAX};
        for (int wrong : wrongCores) {
            checks.dueThrow("set(" + wrong + ", 1, 5)", x, INDEX, () -> x.set(wrong, 1, 5));
            checks.dueThrow("register(" + wrong + ", 1)", x, INDEX, () -> x.register(wrong, 1));
        }
        for (int wrong : wrongRegisters) {
            checks.dueThrow("set(1, " + wrong + ", 5)", x, INDEX, () -> x.set(1, wrong, 5));
            checks.dueThrow("register(1, " + wrong + ")", x, INDEX, () -> x.register(1, wrong));
        }
    }

    private void promise5Poke() {
        CoreTransactions x = new CoreTransactions(4, 0, 4);
        Checks.program(x, new int[][] {{BEGIN, 0, 0, 20}, {LOAD, 2, 0, 4}, {JUMP, 0, 0, 9}, {BEGIN, 0, 0, 30},
                {STORE, 3, 0, 7}, {JUMP, 0, 0, 9}, {BEGIN, 0, 0, 40}, {LOAD, 2, 0, 8}, {JUMP, 0, 0, 9}});
        x.set(1, 3, 77);
        x.start(1, 3);
        x.start(2, 6);
        x.pick(1, 2);
        x.poke(3, 1);
        x.pick(2, 2);
        x.pick(0, 0);
        checks.due("a line beside", 0, x.records());
        checks.due("poke: what it was", 0, x.poke(7, 70));
        checks.due("a writer is broken off", 1, x.records());
        checks.dueRecord(x, 0, 1, 3, 4, 1);
        checks.due("poke", 70, x.word(7));
        checks.due("seen", 70, x.seen(1, 7));
        checks.due("one of another line stays", 1, x.told(2, DEEP));
        x.pick(0, 2);
        x.start(3, 0);
        x.pick(3, 2);
        checks.due("poke again", 70, x.poke(7, -7));
        checks.due("both readers are broken off", 3, x.records());
        checks.dueRecord(x, 1, 0, 0, 4, 3);
        checks.dueRecord(x, 2, 3, 0, 4, 4);
        checks.due("code", 4, x.register(3, 1));
        checks.due("place", 20, x.told(3, PLACE));
        checks.due("what it was", 0, x.poke(63, 1));
        checks.due("what it was", 0, x.poke(0, 1));
        int[] wrongWords = {MIN, -1, 64, MAX};
        for (int wrong : wrongWords) {
            checks.dueThrow("poke(" + wrong + ", 1)", x, INDEX, () -> x.poke(wrong, 1));
            checks.dueThrow("word(" + wrong + ")", x, INDEX, () -> x.word(wrong));
        }
    }

    private void promise6Pick() {
        CoreTransactions x = new CoreTransactions(2, 0, 1);
        Checks.program(x, new int[][] {{MORE, 2, 2, 1}, {JUMP, 0, 0, 0}});
        checks.due("pick no times", 0, x.pick(1, 0));
        checks.due("pick 2000 times", 2000, x.pick(1, 2000));
        checks.due("r 2", 1000, x.register(1, 2));
        checks.due("retired", 2000, x.told(1, RETIRED));
        checks.due("the other", 0, x.told(0, RETIRED));
        int[] wrongCores = {MIN, -1, 2, MAX};
        int[] wrongTimes = {MIN, -1, 2001, MAX};
        for (int wrong : wrongCores) {
            checks.dueThrow("pick(" + wrong + ", 1)", x, INDEX, () -> x.pick(wrong, 1));
            checks.dueThrow("pick(" + wrong + ", -1)", x, INDEX, () -> x.pick(wrong, -1));
        }
        for (int wrong : wrongTimes) {
            checks.dueThrow("pick(0, " + wrong + ")", x, ILLEGAL, () -> x.pick(0, wrong));
            checks.dueThrow("run(7, " + wrong + ")", x, ILLEGAL, () -> x.run(7, wrong));
        }
        x.clear();
        Checks.program(x, new int[][] {{BEGIN, 0, 0, 0}, {ABORT, 0, 0, 0}});
        checks.due("a pick that breaks off counts as one", 1000, x.pick(0, 2000));
        checks.due("broken off", 1000, x.told(0, BROKEN_OFF));
    }

    /** The order of the cores is worked out anew here, by longs. */
    private void promise7Run() {
        int[] seeds = {0, 1, -1, 12345, MIN, MAX, 987654321};
        for (int cores = 1; cores <= 4; cores++) {
            for (int seed : seeds) {
                CoreTransactions x = new CoreTransactions(cores, 0, 1);
                Checks.program(x, new int[][] {{MORE, 2, 2, 1}, {JUMP, 0, 0, 0}});
                int ended = cores - 1;
                if (cores > 1) {
                    x.start(ended, 80);
                    x.pick(ended, 1);
                }
                long[] due = new long[cores];
                long state = seed & 0xFFFFFFFFL;
                for (int n = 0; n < 2000; n++) {
                    state = (state * 1103515245L + 12345L) & 0xFFFFFFFFL;
                    due[(int) ((state / 65536L) % cores)]++;
                }
                if (cores > 1) {
                    due[ended] = 0;
                }
                long all = 0;
                for (long one : due) {
                    all += one;
                }
                checks.due("run(" + seed + ", 0)", 0, x.run(seed, 0));
                checks.due("run(" + seed + ", 2000) of " + cores, all, x.run(seed, 2000));
                for (int core = 0; core < cores; core++) {
                    checks.due("retired of core " + core, due[core], x.told(core, RETIRED));
                }
            }
        }
    }

    private void promises8To10Asking() {
        CoreTransactions x = new CoreTransactions(3, 0, 4);
        Checks.program(x, new int[][] {{BEGIN, 0, 0, 20}, {STORE, 2, 0, 9}, {SET, 2, 0, 6}});
        x.set(2, 2, 5);
        x.poke(9, 1);
        x.poke(10, 2);
        x.pick(2, 3);
        checks.due("register", 6, x.register(2, 2));
        checks.due("word", 1, x.word(9));
        checks.due("seen by itself", 5, x.seen(2, 9));
        checks.due("seen beside", 2, x.seen(2, 10));
        checks.due("seen by another", 1, x.seen(0, 9));
        checks.due("seeing is no access", 1, x.told(2, DEEP));
        checks.due("seeing reads no line", 0, x.told(2, READ));
        int[] wrongCores = {MIN, -1, 3, MAX};
        int[] wrongWords = {MIN, -1, 64, MAX};
        for (int wrong : wrongCores) {
            checks.dueThrow("seen(" + wrong + ", 9)", x, INDEX, () -> x.seen(wrong, 9));
        }
        for (int wrong : wrongWords) {
            checks.dueThrow("seen(2, " + wrong + ")", x, INDEX, () -> x.seen(2, wrong));
        }
        checks.due("the last word", 0, x.seen(1, 63));
    }

    private void promise11Told() {
        CoreTransactions x = new CoreTransactions(2, 0, 4);
        Checks.program(x, new int[][] {{BEGIN, 0, 0, 9}, {END, 0, 0, 0}, {BEGIN, 0, 0, 9}, {ABORT, 0, 0, 0},
                {BEGIN, 0, 0, 9},
                {BEGIN, 0, 0, 9}, {LOAD, 2, 0, 0}, {LOAD, 2, 0, 4}, {LOAD, 2, 0, 8}, {STORE, 2, 0, 4},
                {STORE, 2, 0, 5}, {STORE, 2, 0, 6}, {STORE, 2, 0, 7}, {STORE, 2, 0, 8}});
        x.pick(1, 2);
        x.start(1, 0);
        x.pick(1, 4);
        x.start(1, 4);
        x.pick(1, 20);
        x.pick(0, 1);
        // The last one met a fault at 14 and went on at 9, till it met it again without a transaction.
        int[] due = {14, 1, 2 + 3 + 10 + 5, 0, 0, 0, 0, 0, 2, 2};
        for (int what = 0; what < 10; what++) {
            checks.due("told(1, " + what + ")", due[what], x.told(1, what));
        }
        x.start(1, 4);
        x.pick(1, 10);
        int[] dueWithin = {14, 0, 30, 2, 6, 3, 2, 5, 2, 2};
        for (int what = 0; what < 10; what++) {
            checks.due("within: told(1, " + what + ")", dueWithin[what], x.told(1, what));
        }
        checks.due("the other's age", 5, x.told(0, AGE));
        int[] wrongCores = {MIN, -1, 2, MAX};
        int[] wrongFacts = {MIN, -1, 10, MAX};
        for (int wrong : wrongCores) {
            checks.dueThrow("told(" + wrong + ", 0)", x, INDEX, () -> x.told(wrong, 0));
            checks.dueThrow("told(" + wrong + ", 10)", x, INDEX, () -> x.told(wrong, 10));
        }
        for (int wrong : wrongFacts) {
            checks.dueThrow("told(0, " + wrong + ")", x, ILLEGAL, () -> x.told(0, wrong));
        }
    }

    private void promises12And13Records() {
        CoreTransactions x = new CoreTransactions(2, 0, 1);
        Checks.program(x, new int[][] {{SET, 3, 0, 0}, {BEGIN, 0, 0, 1}, {ABORT, 2, 0, 0}});
        x.start(1, 1);
        for (int n = 1; n <= 250; n++) {
            x.set(1, 2, n);
            x.pick(1, 2);
            if (n == 1 || n == 99 || n == 100 || n == 101 || n == 199 || n == 200 || n == 250) {
                int count = Math.min(n, 100);
                checks.due("records behind " + n, count, x.records());
                checks.dueRecord(x, 0, 1, 1, 256 + n - count + 1, n - count + 1);
                checks.dueRecord(x, count - 1, 1, 1, 256 + n, n);
                checks.dueRecord(x, count / 2, 1, 1, 256 + n - count + 1 + count / 2, n - count + 1 + count / 2);
                checks.dueThrow("record behind the last", x, INDEX, () -> x.record(count, 0));
            }
        }
        int[] wrongRecords = {MIN, -1, 100, MAX};
        int[] wrongFacts = {MIN, -1, 4, MAX};
        for (int wrong : wrongRecords) {
            checks.dueThrow("record(" + wrong + ", 0)", x, INDEX, () -> x.record(wrong, 0));
            checks.dueThrow("record(" + wrong + ", 4)", x, INDEX, () -> x.record(wrong, 4));
        }
        for (int wrong : wrongFacts) {
            checks.dueThrow("record(0, " + wrong + ")", x, ILLEGAL, () -> x.record(0, wrong));
        }
        x.clear();
        checks.due("cleared", 0, x.records());
        checks.dueThrow("record(0, 0) of none", x, INDEX, () -> x.record(0, 0));
        Checks.program(x, new int[][] {{BEGIN, 0, 0, 1}, {ABORT, 2, 0, 0}});
        x.pick(0, 2);
        checks.dueRecord(x, 0, 0, 0, 256, 1);
    }

    private void promise14Clear() {
        CoreTransactions x = new CoreTransactions(3, 1, 3);
        CoreTransactions fresh = new CoreTransactions(3, 1, 3);
        int[][] program = {{BEGIN, 0, 0, 5}, {STORE, 2, 0, 3}, {LOAD, 3, 0, 11}, {JUMP, 0, 0, 4}, {LOAD, 3, 0, 19},
                {MORE, 2, 2, 1}, {LOAD, 3, 0, 7}, {END, 0, 0, 0}};
        Checks.program(x, program);
        x.set(0, 2, 4);
        x.set(1, 2, 5);
        x.poke(0, 8);
        x.poke(63, 9);
        checks.due("a whole transaction", 8, x.pick(1, 8));
        checks.due("committed", 1, x.told(1, COMMITTED));
        x.run(77, 60);
        x.start(0, 0);
        x.pick(0, 3);
        x.start(2, 80);
        x.pick(2, 1);
        checks.due("not as at first", 0, Checks.stateOf(x).equals(Checks.stateOf(fresh)) ? 1 : 0);
        x.clear();
        checks.due("as at first", 1, Checks.stateOf(x).equals(Checks.stateOf(fresh)) ? 1 : 0);
        Checks.program(x, program);
        Checks.program(fresh, program);
        for (int seed = 0; seed < 20; seed++) {
            checks.due("the same run", fresh.run(seed, 10), x.run(seed, 10));
            checks.due("the same state", 1, Checks.stateOf(x).equals(Checks.stateOf(fresh)) ? 1 : 0);
        }
        x.clear();
        checks.due("no instructions", 0, x.pick(0, 1));
        checks.due("a fault", 1, x.told(0, ENDED));
        x.clear();
        x.clear();
        checks.due("cleared twice", 0, x.instruction(HALT, 0, 0, 0));
    }
}
