import java.util.ArrayList;
import java.util.List;

/** The sentences of the document's Terms that name a boundary: what is just inside of it and just outside. */
public final class TermsEdgesTest implements Names {
    private static final int[] NO_PLACES = {MIN, -1, MAX};

    private final Checks checks = new Checks();

    public static void main(String[] args) {
        TermsEdgesTest test = new TermsEdgesTest();
        test.memoryHas64Words();
        test.wordsAreInts();
        test.linesHaveFourWords();
        test.linesMeetAccessesOfOthers();
        test.linesAreOfSets();
        test.registerZeroIsAlwaysZero();
        test.eachRegisterIsItsOwn();
        test.placesOfAFullProgram();
        test.placesThatAreNot();
        test.sumsRunOver();
        test.wordsRunOver();
        test.lessAndOther();
        test.wordsThatAreNotOutside();
        test.wordsThatAreNotWithin();
        test.faultsLookForNoConflict();
        test.endedByAFault();
        test.allOthersAreRetired();
        test.agesAreOfAllCores();
        test.placeToGoOn();
        test.deeperAndBack();
        test.ninthIsTooDeep();
        test.endWithoutOne();
        test.abortCodes();
        test.haltAtEachDepth();
        test.emptyTransaction();
        test.fullTransaction();
        test.ownStores();
        test.asManyLinesAsWays();
        test.fullSetTakesItsOwnLines();
        test.noRoomTakesNothing();
        test.eldersAndYounger();
        test.readersDoNotMeet();
        test.withoutOneAllAreBrokenOff();
        test.elderOnAnotherLine();
        test.endedTransactionsMeetNobody();
        test.accessIsDoneBehindConflicts();
        test.faultBeforeConflictBeforeRoom();
        test.brokenOffRegisters();
        test.brokenOffIsCountedAndRecorded();
        test.checks.end("TermsEdgesTest");
    }

    private static CoreTransactions made(int cores, int sets, int ways, int[]... rows) {
        CoreTransactions x = new CoreTransactions(cores, sets, ways);
        Checks.program(x, rows);
        return x;
    }

    private static int[] row(int operation, int a, int b, int c) {
        return new int[] {operation, a, b, c};
    }

    /** A transaction of the core by one BEGIN and accesses of the words, all loads or all stores. */
    private static void transact(CoreTransactions x, int core, int operation, int... words) {
        int[][] rows = new int[words.length + 1][];
        rows[0] = row(BEGIN, 0, 0, 80);
        for (int n = 0; n < words.length; n++) {
            rows[n + 1] = row(operation, 2, 0, words[n]);
        }
        int first = x.instruction(END, 0, 0, 0) + 1;
        Checks.program(x, rows);
        x.start(core, first);
        x.pick(core, rows.length);
    }

    private void dueGone(String call, CoreTransactions x, int core) {
        checks.due(call + ": depth", 0, x.told(core, DEEP));
        checks.due(call + ": age", 0, x.told(core, AGE));
        checks.due(call + ": lines read", 0, x.told(core, READ));
        checks.due(call + ": lines written", 0, x.told(core, WRITTEN));
        checks.due(call + ": words stored", 0, x.told(core, STORED));
        for (int word = 0; word < 64; word++) {
            checks.due(call + ": sees " + word, x.word(word), x.seen(core, word));
        }
    }

    // "MEMORY has 64 words, ints, at first 0"

    private void memoryHas64Words() {
        CoreTransactions x = made(1, 0, 4, row(LOAD, 2, 3, 0), row(STORE, 4, 3, 0));
        int[] inside = {0, 1, 62, 63};
        for (int word : inside) {
            checks.due("at first", 0, x.word(word));
            x.start(0, 1);
            x.set(0, 3, word);
            x.set(0, 4, word + 100);
            checks.due("STORE at " + word, 1, x.pick(0, 1));
            x.start(0, 0);
            checks.due("LOAD at " + word, 1, x.pick(0, 1));
            checks.due("loaded from " + word, word + 100, x.register(0, 2));
            checks.due("stored at " + word, word + 100, x.word(word));
        }
        for (int word = 2; word < 62; word++) {
            checks.due("no other word is stored", 0, x.word(word));
        }
        int[] outside = {MIN, -1, 64, MAX};
        for (int word : outside) {
            for (int place = 0; place < 2; place++) {
                x.start(0, place);
                x.set(0, 3, word);
                checks.due("no word " + word, 0, x.pick(0, 1));
                checks.due("a fault at " + word, 1, x.told(0, ENDED));
            }
        }
    }

    private void wordsAreInts() {
        int[] values = {MIN, MIN + 1, -1, 0, 1, MAX - 1, MAX};
        for (int v : values) {
            CoreTransactions x = made(1, 0, 4, row(LOAD, 2, 0, 7), row(STORE, 2, 0, 8), row(BEGIN, 0, 0, 9),
                    row(LOAD, 3, 0, 8), row(STORE, 3, 0, 9), row(LOAD, 4, 0, 9), row(END, 0, 0, 0));
            x.poke(7, v);
            checks.due("retired", 7, x.pick(0, 7));
            checks.due("poked", v, x.word(7));
            checks.due("loaded", v, x.register(0, 2));
            checks.due("stored", v, x.word(8));
            checks.due("loaded from its own", v, x.register(0, 4));
            checks.due("committed", v, x.word(9));
        }
    }

    // "LINE n has words 4 n to 4 n + 3; it is of the set that is the rest of n by SETS"

    private void linesHaveFourWords() {
        CoreTransactions x = new CoreTransactions(1, 0, 1);
        for (int touched = 0; touched < 64; touched++) {
            for (int poked = 0; poked < 64; poked++) {
                for (int operation = LOAD; operation <= STORE; operation++) {
                    x.clear();
                    transact(x, 0, operation, touched);
                    x.poke(poked, 1);
                    int first = touched - touched % 4;
                    boolean same = poked >= first && poked <= first + 3;
                    checks.due("poke " + poked + " meets " + touched, same ? 1 : 0, x.records());
                }
            }
        }
    }

    private void linesMeetAccessesOfOthers() {
        CoreTransactions x = new CoreTransactions(2, 0, 1);
        for (int line = 0; line < 16; line++) {
            int[] near = {4 * line - 1, 4 * line, 4 * line + 3, 4 * line + 4};
            for (int n = 0; n < 4; n++) {
                for (int operation = LOAD; operation <= STORE && near[n] >= 0 && near[n] < 64; operation++) {
                    x.clear();
                    transact(x, 1, STORE, 4 * line + 2);
                    int place = x.instruction(operation, 3, 0, near[n]);
                    x.start(0, place);
                    checks.due("an access of " + near[n], 1, x.pick(0, 1));
                    checks.due("meets line " + line, n == 1 || n == 2 ? 1 : 0, x.records());
                }
            }
        }
    }

    private void linesAreOfSets() {
        for (int sets = 0; sets <= 2; sets++) {
            CoreTransactions x = new CoreTransactions(1, sets, 1);
            int many = sets == 0 ? 1 : sets == 1 ? 2 : 4;
            for (int line = 0; line < 16; line++) {
                for (int other = 0; other < 16; other++) {
                    x.clear();
                    transact(x, 0, LOAD, 4 * line, 4 * other + 3);
                    boolean fits = line == other || line % many != other % many;
                    checks.due(many + " sets: lines " + line + ", " + other, fits ? 1 : 0, x.told(0, DEEP));
                }
            }
        }
    }

    // "A core has REGISTERS 0 .. 7 (0 is always 0)"

    private void registerZeroIsAlwaysZero() {
        int[][] rows = {row(SET, 0, 0, 5), row(ADD, 0, 2, 2), row(SUB, 0, 0, 2), row(MUL, 0, 2, 2), row(MORE, 0, 2, 5),
            row(LOAD, 0, 0, 9)};
        for (int[] one : rows) {
            CoreTransactions x = made(1, 0, 1, one, row(ADD, 3, 0, 0), row(STORE, 0, 0, 9), row(BEGIN, 0, 0, 8), one,
                    row(MORE, 3, 0, 0), row(END, 0, 0, 0));
            x.poke(9, 4);
            x.set(0, 2, 7);
            x.set(0, 3, 1);
            checks.due("r 0 by " + one[0], 1, x.pick(0, 1));
            checks.due("r 0 behind " + one[0], 0, x.register(0, 0));
            x.pick(0, 2);
            checks.due("r 0 and r 0", 0, x.register(0, 3));
            checks.due("r 0 stored", 0, x.word(9));
            x.poke(9, 4);
            x.set(0, 3, 1);
            checks.due("within", 4, x.pick(0, 4));
            checks.due("r 0 within", 0, x.register(0, 0) + x.register(0, 3));
        }
        CoreTransactions x = made(1, 0, 1, row(BEGIN, 0, 0, 8), row(LOAD, 0, 0, 9));
        x.poke(9, 4);
        x.pick(0, 2);
        checks.due("a LOAD into r 0 reads its line", 1, x.told(0, READ));
    }

    private void eachRegisterIsItsOwn() {
        for (int a = 1; a < 8; a++) {
            CoreTransactions x = made(1, 0, 1, row(SET, a, 0, 50), row(LOAD, a, 0, 3), row(MORE, a, a, 1),
                    row(ADD, a, a, a), row(SUB, a, a, 0), row(MUL, a, a, a));
            x.poke(3, 4);
            int[] due = {50, 4, 5, 10, 10, 100};
            for (int n = 0; n < due.length; n++) {
                x.pick(0, 1);
                for (int register = 0; register < 8; register++) {
                    checks.due("r " + register + " behind " + n, register == a ? due[n] : 0, x.register(0, register));
                }
            }
        }
    }

    // "INSTRUCTIONS have numbers 0, 1, .., 80 at most"; "A place without an instruction is a FAULT"

    private void placesOfAFullProgram() {
        CoreTransactions x = new CoreTransactions(1, 0, 1);
        for (int n = 0; n < 80; n++) {
            checks.due("its number", n, x.instruction(SET, 2, 0, n));
        }
        for (int n = 0; n < 80; n++) {
            x.start(0, n);
            checks.due("place " + n, 1, x.pick(0, 1));
            checks.due("instruction " + n, n, x.register(0, 2));
            checks.due("the next place", n + 1, x.told(0, PLACE));
            checks.due("it runs", 0, x.told(0, ENDED));
        }
        checks.due("place 80", 0, x.pick(0, 1));
        checks.due("stays", 80, x.told(0, PLACE));
        checks.due("ended", 1, x.told(0, ENDED));
    }

    private void placesThatAreNot() {
        for (int place : NO_PLACES) {
            CoreTransactions x = made(1, 0, 1, row(JUMP, 0, 0, place), row(BEGIN, 0, 0, 3), row(JUMP, 0, 0, place),
                    row(HALT, 0, 0, 0));
            checks.due("a jump to " + place, 1, x.pick(0, 1));
            checks.due("it runs yet", 0, x.told(0, ENDED));
            checks.due("a fault is not retired", 0, x.pick(0, 1));
            checks.due("ended", 1, x.told(0, ENDED));
            checks.due("there", place, x.told(0, PLACE));
            checks.due("not recorded", 0, x.records());
            x.start(0, 1);
            checks.due("within: BEGIN and the jump", 2, x.pick(0, 2));
            checks.due("within: yet", 1, x.told(0, DEEP));
            checks.due("within: the fault", 0, x.pick(0, 1));
            checks.due("within: it runs", 0, x.told(0, ENDED));
            checks.due("within: goes on", 3, x.told(0, PLACE));
            checks.dueRecord(x, 0, 0, 1, FAULT, 1);
        }
        for (int length = 0; length < 5; length++) {
            CoreTransactions x = new CoreTransactions(1, 0, 1);
            for (int n = 0; n < length; n++) {
                x.instruction(MORE, 2, 2, 1);
            }
            checks.due("all of " + length, length, x.pick(0, 10));
            checks.due("behind the last", length, x.told(0, PLACE));
            checks.due("ended", 1, x.told(0, ENDED));
        }
    }

    // "(all running over)"

    private void sumsRunOver() {
        int[][] rows = {{ADD, MAX, 1, MIN}, {ADD, MIN, -1, MAX}, {ADD, MAX, MAX, -2}, {ADD, MIN, MIN, 0},
            {ADD, MAX, MIN, -1}, {SUB, MIN, 1, MAX}, {SUB, MAX, -1, MIN}, {SUB, 0, MIN, MIN}, {SUB, -1, MIN, MAX},
            {SUB, MIN, MAX, 1}, {SUB, 3, 5, -2}, {MUL, MIN, -1, MIN}, {MUL, MAX, MAX, 1}, {MUL, 65536, 65536, 0},
            {MUL, 65536, 32768, MIN}, {MUL, 46341, 46341, -2147479015}, {MUL, MIN, MIN, 0}, {MUL, MAX, 2, -2},
            {MUL, -3, 5, -15}, {MORE, MAX, 1, MIN}, {MORE, MIN, -1, MAX}, {MORE, MIN, MIN, 0}, {MORE, MAX, MAX, -2},
            {SET, 8, MIN, MIN}, {SET, 8, MAX, MAX}};
        for (int[] one : rows) {
            boolean byRegisters = one[0] == ADD || one[0] == SUB || one[0] == MUL;
            CoreTransactions x = made(1, 0, 1, row(one[0], 7, 5, byRegisters ? 6 : one[2]));
            x.set(0, 5, one[1]);
            x.set(0, 6, byRegisters ? one[2] : 9);
            checks.due("it is retired", 1, x.pick(0, 1));
            checks.due(one[0] + " of " + one[1] + ", " + one[2], one[3], x.register(0, 7));
            checks.due("r b stays", one[1], x.register(0, 5));
        }
    }

    private void wordsRunOver() {
        int[][] rows = {{MIN, MIN, 0}, {MIN, MIN + 63, 63}, {MIN, MIN + 64, -1}, {MIN, MAX, -1}, {MAX, MAX, -1},
            {MAX, MIN + 1, 0}, {MAX, MIN, -1}, {MAX, MIN + 64, 63}, {MAX, MIN + 65, -1}, {-1, 0, -1}, {-1, 1, 0},
            {63, 0, 63}, {63, 1, -1}, {-5, 68, 63}, {-5, 69, -1}, {70, -70, 0}, {70, -71, -1}};
        for (int[] one : rows) {
            for (int operation = LOAD; operation <= STORE; operation++) {
                CoreTransactions x = made(1, 0, 1, row(operation, 4, 5, one[1]));
                x.set(0, 4, 33);
                x.set(0, 5, one[0]);
                for (int word = 0; word < 64; word++) {
                    x.poke(word, 100 + word);
                }
                String call = operation + " at " + one[0] + " and " + one[1];
                checks.due(call, one[2] < 0 ? 0 : 1, x.pick(0, 1));
                checks.due(call + ": a fault", one[2] < 0 ? 1 : 0, x.told(0, ENDED));
                boolean loaded = operation == LOAD && one[2] >= 0;
                checks.due(call + ": its register", loaded ? 100 + one[2] : 33, x.register(0, 4));
                for (int word = 0; word < 64; word++) {
                    boolean stored = operation == STORE && one[2] == word;
                    checks.due(call + ": word " + word, stored ? 33 : 100 + word, x.word(word));
                }
            }
        }
    }

    // "LESS: jump to c if r a is less than r b. OTHER: jump to c if r a is not r b."

    private void lessAndOther() {
        int[] values = {MIN, MIN + 1, -1, 0, 1, MAX - 1, MAX};
        for (int n = 0; n < values.length; n++) {
            for (int m = 0; m < values.length; m++) {
                dueJump(LESS, values[n], values[m], n < m);
                dueJump(OTHER, values[n], values[m], n != m);
            }
        }
        CoreTransactions x = made(1, 0, 1, row(LESS, 2, 2, 9), row(OTHER, 2, 2, 9), row(LESS, 0, 0, 9),
                row(OTHER, 0, 0, 9), row(JUMP, 0, 0, 4));
        x.set(0, 2, 5);
        checks.due("a register is not less or other than itself", 4, x.pick(0, 4));
        checks.due("so no jump", 4, x.told(0, PLACE));
        checks.due("a jump to itself", 20, x.pick(0, 20));
        checks.due("stays there", 4, x.told(0, PLACE));
    }

    private void dueJump(int operation, int left, int right, boolean jumps) {
        CoreTransactions x = made(1, 0, 1, row(operation, 2, 3, 77));
        x.set(0, 2, left);
        x.set(0, 3, right);
        checks.due("it is retired", 1, x.pick(0, 1));
        checks.due(operation + " of " + left + ", " + right, jumps ? 77 : 1, x.told(0, PLACE));
    }

    // "a word that there is not (with LOAD or STORE): in a transaction it is broken off with code 1; else the core
    // has ended. Neither is retired."

    private void wordsThatAreNotOutside() {
        int[] outside = {MIN, -1, 64, MAX};
        for (int operation = LOAD; operation <= STORE; operation++) {
            for (int word : outside) {
                CoreTransactions x = made(1, 0, 1, row(SET, 2, 0, 5), row(operation, 2, 0, word));
                checks.due("what is before it", 1, x.pick(0, 9));
                checks.due("ended", 1, x.told(0, ENDED));
                checks.due("its place stays", 1, x.told(0, PLACE));
                checks.due("retired", 1, x.told(0, RETIRED));
                checks.due("r 1", 0, x.register(0, 1));
                checks.due("r 2", 5, x.register(0, 2));
                checks.due("no record", 0, x.records() + x.told(0, BROKEN_OFF));
                for (int n = 0; n < 64; n++) {
                    checks.due("no word is stored", 0, x.word(n));
                }
            }
        }
    }

    private void wordsThatAreNotWithin() {
        int[] outside = {MIN, -1, 64, MAX};
        for (int operation = LOAD; operation <= STORE; operation++) {
            for (int word : outside) {
                for (int deep = 1; deep <= 8; deep += 7) {
                    CoreTransactions x = new CoreTransactions(1, 0, 1);
                    for (int n = 0; n < deep; n++) {
                        x.instruction(BEGIN, 0, 0, 50 + n);
                    }
                    x.instruction(operation, 2, 0, word);
                    checks.due("BEGIN", deep, x.pick(0, deep));
                    checks.due("the fault is not retired", 0, x.pick(0, 1));
                    checks.due("told so", deep, x.told(0, RETIRED));
                    checks.due("it runs", 0, x.told(0, ENDED));
                    checks.due("it goes on", 50, x.told(0, PLACE));
                    checks.due("r 1", FAULT, x.register(0, 1));
                    checks.due("one record", 1, x.records());
                    checks.dueRecord(x, 0, 0, 0, FAULT, 1);
                    dueGone("a fault", x, 0);
                }
            }
        }
    }

    /** "(its word being there)": words -1 and 64 are beside lines 0 and 15, which others hold. */
    private void faultsLookForNoConflict() {
        int[] outside = {-4, -3, -1, 64, 67, 68};
        for (int operation = LOAD; operation <= STORE; operation++) {
            for (int word : outside) {
                for (int kind = 0; kind < 3; kind++) {
                    dueFaultAlone(operation, word, kind);
                }
            }
        }
    }

    /** Kind 0: without a transaction, 1: in the elder one, 2: in the younger one. */
    private void dueFaultAlone(int operation, int word, int kind) {
        CoreTransactions x = new CoreTransactions(2, 0, 4);
        int begin = x.instruction(BEGIN, 0, 0, 80);
        int access = x.instruction(operation, 3, 0, word);
        x.start(0, kind == 0 ? access : begin);
        x.pick(0, kind == 1 ? 1 : 0);
        transact(x, 1, STORE, 0, 63, 32);
        x.pick(0, kind == 2 ? 1 : 0);
        checks.due("a fault at " + word, 0, x.pick(0, 1));
        checks.due("the other stays", 1, x.told(1, DEEP));
        checks.due("its own alone", kind == 0 ? 0 : 1, x.records());
        checks.due("code", kind == 0 ? 0 : FAULT, x.register(0, 1));
    }

    private void endedByAFault() {
        CoreTransactions x = made(2, 0, 1, row(MORE, 2, 2, 1));
        checks.due("one, then a fault", 1, x.pick(0, 2));
        x.instruction(MORE, 2, 2, 1);
        checks.due("an ended core does nothing", 0, x.pick(0, 5));
        checks.due("its place stays", 1, x.told(0, PLACE));
        checks.due("the other runs", 2, x.pick(1, 5));
        x.start(0, 1);
        checks.due("started again", 1, x.pick(0, 5));
    }

    /** "All others are retired, and the next place comes behind them, unless they jump." */
    private void allOthersAreRetired() {
        int[][] rows = {row(SET, 2, 0, 0), row(ADD, 2, 0, 0), row(SUB, 2, 0, 0), row(MUL, 2, 0, 0), row(MORE, 2, 0, 0),
            row(LOAD, 2, 0, 0), row(STORE, 2, 0, 0), row(LESS, 0, 0, 9), row(OTHER, 0, 0, 9), row(JUMP, 0, 0, 1),
            row(BEGIN, 0, 0, 9), row(END, 0, 0, 0), row(ABORT, 0, 0, 0), row(HALT, 0, 0, 0)};
        for (int[] one : rows) {
            CoreTransactions x = made(1, 0, 1, one);
            checks.due("retired: " + one[0], 1, x.pick(0, 1));
            checks.due("told so", 1, x.told(0, RETIRED));
            checks.due("the place behind " + one[0], 1, x.told(0, PLACE));
            checks.due("ended by " + one[0], one[0] == HALT ? 1 : 0, x.told(0, ENDED));
            checks.due("nothing is recorded", 0, x.records());
            checks.due("nothing is committed", 0, x.told(0, COMMITTED));
        }
    }

    // "BEGIN without one begins it: registers, and c as the place to go on if it is broken off, are kept; it has an
    // AGE, the next number of all cores (1, 2, ..)."

    private void agesAreOfAllCores() {
        CoreTransactions x = made(4, 0, 1, row(BEGIN, 0, 0, 0), row(BEGIN, 0, 0, 0), row(END, 0, 0, 0),
                row(END, 0, 0, 0), row(JUMP, 0, 0, 0), row(BEGIN, 0, 0, 6), row(ABORT, 0, 0, 0));
        checks.due("no age at first", 0, x.told(0, AGE));
        int[] order = {2, 0, 3, 1};
        for (int n = 0; n < 4; n++) {
            x.pick(order[n], 1);
            checks.due("the next number", n + 1, x.told(order[n], AGE));
        }
        x.pick(2, 1);
        checks.due("BEGIN within one has none", 1, x.told(2, AGE));
        x.pick(2, 2);
        checks.due("none behind its end", 0, x.told(2, AGE));
        x.pick(2, 2);
        checks.due("the next one's", 5, x.told(2, AGE));
        x.start(1, 5);
        x.pick(1, 2);
        checks.due("a broken one's is gone", 0, x.told(1, AGE));
        checks.dueRecord(x, 0, 1, 5, 256, 6);
        x.start(0, 5);
        x.pick(0, 1);
        checks.due("and not used again", 7, x.told(0, AGE));
        checks.due("others keep theirs", 3, x.told(3, AGE));
    }

    private void placeToGoOn() {
        int[] places = {MIN, -1, 0, 1, 2, 79, 80, 81, MAX};
        for (int place : places) {
            CoreTransactions x = made(1, 0, 1, row(BEGIN, 7, 7, place), row(BEGIN, 0, 0, 44), row(ABORT, 0, 0, 0));
            x.pick(0, 3);
            checks.due("it goes on at " + place, place, x.told(0, PLACE));
            checks.due("it runs", 0, x.told(0, ENDED));
            if (place < 0 || place > 2) {
                checks.due("nothing is there", 0, x.pick(0, 1));
                checks.due("a fault without one", 1, x.told(0, ENDED));
                checks.due("one record", 1, x.records());
            }
        }
    }

    // "BEGIN within one only makes it one DEEPER; at eight deep it is broken off, code 2. END makes it one less deep;
    // the last END COMMITS it."

    private void deeperAndBack() {
        for (int deep = 1; deep <= 8; deep++) {
            CoreTransactions x = new CoreTransactions(1, 0, 1);
            for (int n = 0; n < deep; n++) {
                x.instruction(BEGIN, 0, 0, 70);
            }
            x.instruction(STORE, 2, 0, 9);
            for (int n = 0; n < deep; n++) {
                x.instruction(END, 0, 0, 0);
            }
            x.set(0, 2, 6);
            for (int n = 1; n <= deep; n++) {
                checks.due("BEGIN is retired", 1, x.pick(0, 1));
                checks.due("so deep", n, x.told(0, DEEP));
                checks.due("of one age", 1, x.told(0, AGE));
            }
            x.pick(0, 1);
            for (int n = deep - 1; n >= 0; n--) {
                checks.due("not yet in memory", 0, x.word(9));
                checks.due("not yet committed", 0, x.told(0, COMMITTED));
                checks.due("words stored", 1, x.told(0, STORED));
                checks.due("END is retired", 1, x.pick(0, 1));
                checks.due("one less", n, x.told(0, DEEP));
            }
            checks.due("in memory", 6, x.word(9));
            checks.due("committed once", 1, x.told(0, COMMITTED));
            checks.due("nothing is broken off", 0, x.records());
            dueGone("committed", x, 0);
        }
    }

    private void ninthIsTooDeep() {
        CoreTransactions x = new CoreTransactions(1, 0, 1);
        for (int n = 0; n < 9; n++) {
            x.instruction(BEGIN, 0, 0, 20 + n);
        }
        x.instruction(END, 0, 0, 0);
        x.pick(0, 7);
        x.start(0, 0);
        checks.due("eight", 8, x.pick(0, 8));
        checks.due("the ninth", 0, x.pick(0, 1));
        checks.due("it goes on as the first says", 20, x.told(0, PLACE));
        checks.due("code", TOO_DEEP, x.register(0, 1));
        checks.dueRecord(x, 0, 0, 0, TOO_DEEP, 2);
        checks.due("retired", 15, x.told(0, RETIRED));
        dueGone("too deep", x, 0);
        x.start(0, 0);
        x.pick(0, 8);
        x.start(0, 1);
        checks.due("eight again", 8, x.pick(0, 8));
        checks.due("its first is the second BEGIN", 4, x.told(0, AGE));
        checks.due("an END of eight", 1, x.pick(0, 1));
        checks.due("seven are left", 7, x.told(0, DEEP));
        checks.due("one record", 1, x.records());
    }

    private void endWithoutOne() {
        CoreTransactions x = made(2, 0, 1, row(END, 7, 7, 7), row(BEGIN, 0, 0, 9), row(STORE, 2, 0, 5),
                row(END, 0, 0, 0), row(END, 0, 0, 0), row(END, 0, 0, 0));
        x.set(0, 2, 8);
        x.start(1, 1);
        x.pick(1, 1);
        checks.due("END without one is retired", 1, x.pick(0, 1));
        checks.due("and does nothing", 0, x.told(0, COMMITTED) + x.told(0, DEEP));
        checks.due("nor to others", 1, x.told(1, DEEP));
        x.pick(0, 3);
        x.poke(5, 1);
        checks.due("END behind the last one", 2, x.pick(0, 2));
        checks.due("stores nothing again", 1, x.word(5));
        checks.due("commits nothing again", 1, x.told(0, COMMITTED));
        checks.due("no depth", 0, x.told(0, DEEP));
    }

    // "ABORT within one breaks it off, its code is 256 and r a; without one it does nothing."

    private void abortCodes() {
        int[][] rows = {{0, 256}, {1, 257}, {-1, 255}, {-256, 0}, {-257, -1}, {MAX - 256, MAX}, {MAX - 255, MIN},
            {MAX, MIN + 255}, {MIN, MIN + 256}};
        for (int[] one : rows) {
            for (int a = 1; a < 8; a++) {
                CoreTransactions x = made(1, 0, 1, row(ABORT, a, 0, 0), row(BEGIN, 0, 0, 6), row(MORE, a, a, one[0]),
                        row(ABORT, a, 0, 0));
                checks.due("ABORT without one", 1, x.pick(0, 1));
                checks.due("does nothing", 0, x.register(0, 1) + x.records() + x.told(0, BROKEN_OFF));
                checks.due("its place", 1, x.told(0, PLACE));
                checks.due("ABORT is not retired", 2, x.pick(0, 3));
                checks.due("told so", 3, x.told(0, RETIRED));
                checks.due("256 and " + one[0], one[1], x.register(0, 1));
                checks.due("r a as it was kept", a == 1 ? one[1] : 0, x.register(0, a));
                checks.dueRecord(x, 0, 0, 1, one[1], 1);
            }
        }
        CoreTransactions x = made(1, 0, 1, row(BEGIN, 0, 0, 6), row(ABORT, 0, 0, 99));
        x.set(0, 0, 7);
        x.pick(0, 2);
        checks.due("256 and r 0", 256, x.register(0, 1));
    }

    private void haltAtEachDepth() {
        for (int deep = 0; deep <= 8; deep++) {
            CoreTransactions x = new CoreTransactions(1, 0, 1);
            for (int n = 0; n < deep; n++) {
                x.instruction(BEGIN, 0, 0, 60 + n);
            }
            int halt = x.instruction(HALT, 0, 0, 0);
            x.pick(0, deep);
            checks.due("HALT at " + deep, deep == 0 ? 1 : 0, x.pick(0, 1));
            checks.due("ended", deep == 0 ? 1 : 0, x.told(0, ENDED));
            checks.due("place", deep == 0 ? halt + 1 : 60, x.told(0, PLACE));
            checks.due("records", deep == 0 ? 0 : 1, x.records());
            checks.due("code", deep == 0 ? 0 : HALTED, x.register(0, 1));
            checks.due("retired", deep == 0 ? 1 : deep, x.told(0, RETIRED));
            dueGone("HALT", x, 0);
        }
    }

    // "COMMITTED, all words that it stored are in memory."

    private void emptyTransaction() {
        CoreTransactions x = made(1, 0, 1, row(BEGIN, 0, 0, 9), row(END, 0, 0, 0), row(BEGIN, 0, 0, 9));
        x.poke(0, 3);
        checks.due("BEGIN and END", 2, x.pick(0, 2));
        checks.due("committed", 1, x.told(0, COMMITTED));
        checks.due("memory stays", 3, x.word(0));
        dueGone("an empty one", x, 0);
        x.pick(0, 1);
        checks.due("it had an age", 2, x.told(0, AGE));
        for (int what = READ; what <= STORED; what++) {
            checks.due("a new one has no lines and words", 0, x.told(0, what));
        }
        for (int word = 0; word < 64; word++) {
            x.poke(word, 1);
        }
        checks.due("and meets no poke", 1, x.told(0, DEEP));
    }

    private void fullTransaction() {
        CoreTransactions x = made(2, 2, 4, row(BEGIN, 0, 0, 9), row(LOAD, 4, 3, 0), row(STORE, 2, 3, 0),
                row(MORE, 2, 2, 1), row(MORE, 3, 3, 1), row(LESS, 3, 5, 1), row(END, 0, 0, 0));
        x.set(0, 2, 1000);
        x.set(0, 5, 64);
        checks.due("all words", 1 + 5 * 64, x.pick(0, 1 + 5 * 64));
        checks.due("lines read", 16, x.told(0, READ));
        checks.due("lines written", 16, x.told(0, WRITTEN));
        checks.due("words stored", 64, x.told(0, STORED));
        for (int word = 0; word < 64; word++) {
            checks.due("memory yet", 0, x.word(word));
            checks.due("the other sees", 0, x.seen(1, word));
            checks.due("it sees", 1000 + word, x.seen(0, word));
        }
        checks.due("END", 1, x.pick(0, 1));
        for (int word = 0; word < 64; word++) {
            checks.due("memory", 1000 + word, x.word(word));
            checks.due("the other sees now", 1000 + word, x.seen(1, word));
        }
        dueGone("a full one", x, 0);
    }

    /** "In a transaction a LOAD has what it stored itself, and its line is READ; a STORE is for itself alone yet." */
    private void ownStores() {
        CoreTransactions x = made(2, 0, 1, row(BEGIN, 0, 0, 9), row(STORE, 2, 0, 63), row(LOAD, 4, 0, 63),
                row(LOAD, 3, 0, 62), row(STORE, 0, 0, 63), row(LOAD, 5, 0, 63), row(END, 0, 0, 0));
        x.poke(62, 11);
        x.poke(63, 12);
        x.set(0, 2, 13);
        x.set(0, 5, 14);
        x.pick(0, 2);
        checks.due("a STORE reads no line", 0, x.told(0, READ));
        checks.due("its line is written", 1, x.told(0, WRITTEN));
        x.pick(0, 1);
        checks.due("its own", 13, x.register(0, 4));
        checks.due("its line is read", 1, x.told(0, READ));
        x.pick(0, 1);
        checks.due("a word beside it", 11, x.register(0, 3));
        x.pick(0, 2);
        checks.due("its own 0", 0, x.register(0, 5));
        checks.due("one line each", 2, x.told(0, READ) + x.told(0, WRITTEN));
        checks.due("one word", 1, x.told(0, STORED));
        checks.due("memory yet", 12, x.word(63));
        x.pick(0, 1);
        checks.due("the last one it stored", 0, x.word(63));
        checks.due("a word beside it stays", 11, x.word(62));
    }

    // "If with that line the set has more lines that are read or written than WAYS, it is broken off, code 3."

    private void asManyLinesAsWays() {
        for (int sets = 0; sets <= 2; sets++) {
            int many = sets == 0 ? 1 : sets == 1 ? 2 : 4;
            for (int ways = 1; ways <= 4; ways++) {
                for (int set = 0; set < many; set++) {
                    for (int kinds = 0; kinds < 4; kinds++) {
                        dueRoom(new CoreTransactions(1, sets, ways), many, ways, set, kinds);
                    }
                }
            }
        }
    }

    /** All sets are filled; one line more, if the memory has one, does not fit. The kinds are LOADs and STOREs. */
    private void dueRoom(CoreTransactions x, int sets, int ways, int set, int kinds) {
        int before = kinds % 2 == 0 ? LOAD : STORE;
        int last = kinds / 2 == 0 ? LOAD : STORE;
        int[] words = new int[sets * ways];
        for (int n = 0; n < words.length; n++) {
            words[n] = 4 * n + n % 4;
        }
        transact(x, 0, before, words);
        String call = sets + " sets of " + ways;
        checks.due(call + " hold all", 1, x.told(0, DEEP));
        checks.due(call + ": lines", words.length, x.told(0, before == LOAD ? READ : WRITTEN));
        int line = words.length + set;
        if (line < 16) {
            x.instruction(last, 2, 0, 4 * line);
            checks.due(call + ", a line more", 0, x.pick(0, 1));
            checks.due(call + ": retired", words.length + 1, x.told(0, RETIRED));
            checks.due(call + ": code", NO_ROOM, x.register(0, 1));
            checks.due(call + ": one record", 1, x.records());
            dueGone(call, x, 0);
        }
    }

    private void fullSetTakesItsOwnLines() {
        CoreTransactions x = made(1, 1, 2, row(BEGIN, 0, 0, 9), row(LOAD, 2, 0, 0), row(STORE, 2, 0, 8),
                row(STORE, 2, 0, 3), row(LOAD, 2, 0, 11), row(LOAD, 2, 0, 1), row(STORE, 2, 0, 9), row(STORE, 2, 0, 4),
                row(LOAD, 2, 0, 63), row(LOAD, 2, 0, 48));
        checks.due("its lines again, both kinds, and another set", 9, x.pick(0, 9));
        checks.due("read", 3, x.told(0, READ));
        checks.due("written", 3, x.told(0, WRITTEN));
        checks.due("a third in the full set", 0, x.pick(0, 1));
        checks.dueRecord(x, 0, 0, 0, NO_ROOM, 1);
    }

    private void noRoomTakesNothing() {
        CoreTransactions x = made(1, 0, 1, row(BEGIN, 0, 0, 9), row(STORE, 2, 0, 0), row(LOAD, 3, 0, 4),
                row(BEGIN, 0, 0, 9), row(STORE, 2, 0, 0), row(STORE, 2, 0, 4));
        x.set(0, 2, 5);
        x.set(0, 3, 6);
        x.poke(4, 7);
        x.pick(0, 3);
        checks.due("LOAD without room loads nothing", 6, x.register(0, 3));
        checks.due("nothing is stored", 0, x.word(0));
        x.start(0, 3);
        x.pick(0, 3);
        checks.due("STORE without room stores nothing", 7, x.word(4));
        checks.due("it is recorded", 2, x.records());
        checks.dueRecord(x, 1, 0, 3, NO_ROOM, 2);
        CoreTransactions free = made(1, 0, 1, row(LOAD, 2, 0, 0), row(LOAD, 2, 0, 4), row(STORE, 2, 0, 8),
                row(STORE, 2, 0, 12));
        checks.due("without one there is always room", 4, free.pick(0, 4));
    }

    // "In a transaction, if one of these is older, that of this core is broken off, code 4, and the others are not;
    // else, or without one, all of these are broken off, code 4, and then the access is done."

    private void eldersAndYounger() {
        for (int[] order : orders()) {
            for (int storing = 0; storing < 4; storing++) {
                dueStoreOf(readersBy(order, 21), order, storing);
            }
        }
    }

    /** Four cores that began in that order have all read line 5. */
    private static CoreTransactions readersBy(int[] order, int word) {
        CoreTransactions x = made(4, 0, 1, row(BEGIN, 0, 0, 40), row(LOAD, 2, 0, word), row(STORE, 3, 0, word + 1),
                row(LOAD, 4, 0, word + 2));
        for (int core : order) {
            x.set(core, 3, 70 + core);
            x.pick(core, 2);
        }
        return x;
    }

    private void dueStoreOf(CoreTransactions x, int[] order, int storing) {
        boolean oldest = order[0] == storing;
        checks.due("STORE of the oldest alone is retired", oldest ? 1 : 0, x.pick(storing, 1));
        int k = 0;
        for (int core = 0; core < 4; core++) {
            boolean stays = oldest == (core == storing);
            checks.due("core " + core + " stays", stays ? 1 : 0, x.told(core, DEEP));
            checks.due("its code", stays ? 0 : CONFLICT, x.register(core, 1));
            checks.due("retired", oldest && core == storing ? 3 : 2, x.told(core, RETIRED));
            if (!stays) {
                checks.due("goes on", 40, x.told(core, PLACE));
                checks.dueRecord(x, k, core, 0, CONFLICT, ageIn(order, core));
                k++;
            }
        }
        checks.due("no record more", k, x.records());
        checks.due("sees its own", oldest ? 70 + storing : 0, x.seen(storing, 22));
    }

    private static int ageIn(int[] order, int core) {
        for (int n = 0; n < order.length; n++) {
            if (order[n] == core) {
                return n + 1;
            }
        }
        return 0;
    }

    private static List<int[]> orders() {
        List<int[]> orders = new ArrayList<>();
        for (int code = 0; code < 256; code++) {
            int[] order = {code & 3, code >> 2 & 3, code >> 4 & 3, code >> 6};
            int met = 1 << order[0] | 1 << order[1] | 1 << order[2] | 1 << order[3];
            if (met == 15) {
                orders.add(order);
            }
        }
        return orders;
    }

    private void readersDoNotMeet() {
        checks.due("all orders of four", 24, orders().size());
        for (int[] order : orders()) {
            CoreTransactions x = readersBy(order, 61);
            for (int core = 0; core < 4; core++) {
                checks.due("LOAD beside readers", 1, x.told(core, DEEP));
            }
            checks.due("no record", 0, x.records());
        }
    }

    private void withoutOneAllAreBrokenOff() {
        for (int storing = 0; storing < 4; storing++) {
            CoreTransactions x = readersBy(new int[] {0, 1, 2, 3}, 21);
            x.start(storing, 3);
            checks.due("LOAD without one", 1, x.pick(storing, 1));
            checks.due("meets no readers", 0, x.records());
            x.start(storing, 2);
            checks.due("STORE without one", 1, x.pick(storing, 1));
            checks.due("all others are broken off", 3, x.records());
            checks.due("and it is done", 70 + storing, x.word(22));
            for (int core = 0; core < 4; core++) {
                checks.due("core " + core, 0, x.told(core, DEEP));
                checks.due("broken off " + core, core == storing ? 0 : 1, x.told(core, BROKEN_OFF));
                checks.due("code of " + core, core == storing ? 0 : CONFLICT, x.register(core, 1));
            }
        }
    }

    private void elderOnAnotherLine() {
        CoreTransactions x = new CoreTransactions(3, 0, 4);
        transact(x, 1, STORE, 11, 16);
        transact(x, 2, LOAD, 12);
        int first = x.instruction(BEGIN, 0, 0, 80);
        Checks.program(x, row(LOAD, 2, 0, 12), row(STORE, 2, 0, 15));
        x.start(0, first);
        checks.due("beside the elder's lines", 2, x.pick(0, 2));
        checks.due("STORE on an elder's that has read", 0, x.pick(0, 1));
        checks.dueRecord(x, 0, 0, first, CONFLICT, 3);
        checks.due("the elders stay", 2, x.told(1, DEEP) + x.told(2, DEEP));
        checks.due("one record", 1, x.records());
    }

    /** Whatever has ended a transaction, its lines are free for the accesses of others. */
    private void endedTransactionsMeetNobody() {
        int[][] ends = {row(END, 0, 0, 0), row(ABORT, 0, 0, 0), row(HALT, 0, 0, 0), row(LOAD, 2, 0, 64),
            row(JUMP, 0, 0, -1), row(LOAD, 2, 0, 0)};
        for (int[] one : ends) {
            for (int operation = LOAD; operation <= STORE; operation++) {
                CoreTransactions x = made(2, 0, 1, row(BEGIN, 0, 0, 8), row(STORE, 2, 0, 20), row(LOAD, 2, 0, 21), one,
                        row(BEGIN, 0, 0, 8), row(operation, 3, 0, 20));
                x.set(0, 2, 5);
                x.set(1, 3, 9);
                x.pick(0, one[0] == JUMP ? 5 : 4);
                checks.due("it is gone", 0, x.told(0, DEEP));
                int records = x.records();
                x.start(1, 4);
                checks.due("the access of another", 2, x.pick(1, 2));
                checks.due("it stays", 1, x.told(1, DEEP));
                checks.due("no record more", records, x.records());
                checks.due("what it has", operation == STORE ? 9 : one[0] == END ? 5 : 0, x.register(1, 3));
            }
        }
    }

    /** "and then the access is done": it has the word as memory has it, behind the other's loss. */
    private void accessIsDoneBehindConflicts() {
        for (int within = 0; within < 2; within++) {
            CoreTransactions x = made(2, 0, 1, row(BEGIN, 0, 0, 50), row(LOAD, 3, 0, 22), row(STORE, 3, 0, 20));
            x.poke(20, 8);
            x.poke(22, 6);
            x.set(1, 2, 5);
            x.start(0, within == 1 ? 0 : 1);
            x.pick(0, within);
            transact(x, 1, STORE, 22, 20);
            checks.due("LOAD", 1, x.pick(0, 1));
            checks.due("has memory's word", 6, x.register(0, 3));
            checks.due("read", within, x.told(0, READ));
            checks.dueRecord(x, 0, 1, 4, CONFLICT, within + 1);
            transact(x, 1, STORE, 20);
            checks.due("the younger meets the elder's read line", within, x.records() - 1);
            checks.due("STORE", 1, x.pick(0, 1));
            checks.due("is seen by itself", 6, x.seen(0, 20));
            checks.due("is in memory without one", within == 1 ? 8 : 6, x.word(20));
            checks.due("written", within, x.told(0, WRITTEN));
            dueGone("the other", x, 1);
        }
    }

    /** "(a place in its set is looked for behind that)" */
    private void faultBeforeConflictBeforeRoom() {
        for (int elder = 0; elder < 2; elder++) {
            CoreTransactions x = made(2, 0, 1, row(BEGIN, 0, 0, 50), row(LOAD, 3, 0, 0), row(STORE, 3, 0, 9),
                    row(BEGIN, 0, 0, 60), row(LOAD, 3, 0, 10));
            x.start(elder, elder == 0 ? 0 : 3);
            x.pick(elder, 2);
            x.start(1 - elder, elder == 0 ? 3 : 0);
            x.pick(1 - elder, 2);
            checks.due("STORE without room, on a line that another read", 0, x.pick(0, 1));
            checks.due("the other goes first, if it is younger", elder == 0 ? 2 : 1, x.records());
            if (elder == 0) {
                checks.dueRecord(x, 0, 1, 3, CONFLICT, 2);
                checks.dueRecord(x, 1, 0, 0, NO_ROOM, 1);
            } else {
                checks.dueRecord(x, 0, 0, 0, CONFLICT, 2);
                checks.due("the elder stays", 1, x.told(1, DEEP));
            }
        }
    }

    // "BROKEN OFF: what it stored is lost; registers are as they were kept, but r 1 is the code; the core goes on at
    // the place that was kept; it is not retired, and it is RECORDED"

    private void brokenOffRegisters() {
        for (int changed = 1; changed < 8; changed++) {
            CoreTransactions x = made(1, 0, 1, row(BEGIN, 0, 0, 9), row(SET, changed, 0, 99), row(BEGIN, 0, 0, 10),
                    row(STORE, changed, 0, 7), row(HALT, 0, 0, 0));
            for (int register = 1; register < 8; register++) {
                x.set(0, register, 10 * register);
            }
            x.poke(7, 3);
            checks.due("before HALT", 4, x.pick(0, 5));
            for (int register = 0; register < 8; register++) {
                checks.due("r " + register, register == 1 ? HALTED : 10 * register, x.register(0, register));
            }
            checks.due("what it stored is lost", 3, x.word(7));
            checks.due("it goes on", 9, x.told(0, PLACE));
            dueGone("broken off", x, 0);
        }
    }

    /** "the last 100 are kept"; what is told of a core counts on. */
    private void brokenOffIsCountedAndRecorded() {
        CoreTransactions x = made(2, 0, 1, row(BEGIN, 0, 0, 0), row(ABORT, 0, 0, 0));
        for (int n = 1; n <= 99; n++) {
            x.pick(n % 2, 2);
        }
        checks.due("99", 99, x.records());
        checks.dueRecord(x, 0, 1, 0, 256, 1);
        x.pick(0, 2);
        checks.due("100", 100, x.records());
        checks.dueRecord(x, 0, 1, 0, 256, 1);
        checks.dueRecord(x, 99, 0, 0, 256, 100);
        x.pick(1, 2);
        checks.due("101", 100, x.records());
        checks.dueRecord(x, 0, 0, 0, 256, 2);
        checks.dueRecord(x, 98, 0, 0, 256, 100);
        checks.dueRecord(x, 99, 1, 0, 256, 101);
        checks.due("core 0", 50, x.told(0, BROKEN_OFF));
        checks.due("core 1", 51, x.told(1, BROKEN_OFF));
        x.pick(0, 2000);
        checks.due("1101", 100, x.records());
        for (int k = 0; k < 100; k++) {
            checks.dueRecord(x, k, 0, 0, 256, 1002 + k);
        }
        checks.due("core 0 counts on", 1050, x.told(0, BROKEN_OFF));
    }
}
