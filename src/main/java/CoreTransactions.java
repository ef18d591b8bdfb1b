/**
 * Cores that run one program in one memory, one instruction at a time as they are picked; parts
 * of it as transactions. The document (../shared/DOC.md) says what each call does.
 */
public final class CoreTransactions {
    public static final int NONE = -1;

    private static final int SET = 0;
    private static final int ADD = 1;
    private static final int SUB = 2;
    private static final int MUL = 3;
    private static final int MORE = 4;
    private static final int LOAD = 5;
    private static final int STORE = 6;
    private static final int LESS = 7;
    private static final int OTHER = 8;
    private static final int JUMP = 9;
    private static final int BEGIN = 10;
    private static final int END = 11;
    private static final int ABORT = 12;
    private static final int HALT = 13;

    private static final int CODE_FAULT = 1;
    private static final int CODE_TOO_DEEP = 2;
    private static final int CODE_NO_ROOM = 3;
    private static final int CODE_CONFLICT = 4;
    private static final int CODE_HALT = 5;
    private static final int CODE_ABORT = 256;
    private static final int CODE_REGISTER = 1;

    private static final int MOST_CORES = 4;
    private static final int MOST_SETS_TOLD = 2;
    private static final int MOST_WAYS = 4;
    private static final int MOST_INSTRUCTIONS = 80;
    private static final int MOST_DEEP = 8;
    private static final int MOST_PICKS = 2000;
    private static final int MOST_RECORDS = 100;
    private static final int REGISTERS = 8;
    private static final int WORDS = 64;
    private static final int LINE_WORDS = 4;
    private static final int LINES = 16;
    private static final int TOLD_OF_CORE = 10;
    private static final int RECORD_FIELDS = 4;

    private final int sets;
    private final int ways;
    private final Core[] cores;
    private final int[] memory = new int[WORDS];
    private final Program program = new Program();
    private final Records broken = new Records();
    private int lastAge;

    public CoreTransactions(int cores, int sets, int ways) {
        int many = nearest(cores, 1, MOST_CORES);
        this.sets = 1 << nearest(sets, 0, MOST_SETS_TOLD);
        this.ways = nearest(ways, 1, MOST_WAYS);
        this.cores = new Core[many];
        for (int n = 0; n < many; n++) {
            this.cores[n] = new Core(n);
        }
    }

    public int instruction(int operation, int a, int b, int c)
            throws IllegalArgumentException, UnsupportedOperationException {
        if (operation < SET || operation > HALT || !namesRegisters(operation, a, b, c)) {
            throw new IllegalArgumentException();
        }
        if (program.length >= MOST_INSTRUCTIONS) {
            throw new UnsupportedOperationException();
        }
        return program.append(operation, a, b, c);
    }

    public int start(int core, int place) throws IndexOutOfBoundsException, IllegalArgumentException {
        if (!isCore(core)) {
            throw new IndexOutOfBoundsException();
        }
        if (place < 0 || place > MOST_INSTRUCTIONS) {
            throw new IllegalArgumentException();
        }
        Core started = cores[core];
        int before = started.place;
        started.transaction.close();
        started.place = place;
        started.ended = false;
        return before;
    }

    public int set(int core, int register, int v) throws IndexOutOfBoundsException {
        if (!isCore(core) || !isRegister(register)) {
            throw new IndexOutOfBoundsException();
        }
        int before = cores[core].registers[register];
        cores[core].put(register, v);
        return before;
    }

    public int poke(int word, int v) throws IndexOutOfBoundsException {
        if (!isWord(word)) {
            throw new IndexOutOfBoundsException();
        }
        breakOffAll(NONE, word / LINE_WORDS, true);
        int before = memory[word];
        memory[word] = v;
        return before;
    }

    public int pick(int core, int times) throws IndexOutOfBoundsException, IllegalArgumentException {
        if (!isCore(core)) {
            throw new IndexOutOfBoundsException();
        }
        if (!isManyPicks(times)) {
            throw new IllegalArgumentException();
        }
        int retired = 0;
        for (int n = 0; n < times && !cores[core].ended; n++) {
            retired += step(cores[core]);
        }
        return retired;
    }

    public int run(int seed, int picks) throws IllegalArgumentException {
        if (!isManyPicks(picks)) {
            throw new IllegalArgumentException();
        }
        int retired = 0;
        int state = seed;
        for (int n = 0; n < picks; n++) {
            state = state * 1103515245 + 12345;
            retired += step(cores[(state >>> 16) % cores.length]);
        }
        return retired;
    }

    public int register(int core, int register) throws IndexOutOfBoundsException {
        if (!isCore(core) || !isRegister(register)) {
            throw new IndexOutOfBoundsException();
        }
        return cores[core].registers[register];
    }

    public int word(int word) throws IndexOutOfBoundsException {
        if (!isWord(word)) {
            throw new IndexOutOfBoundsException();
        }
        return memory[word];
    }

    public int seen(int core, int word) throws IndexOutOfBoundsException {
        if (!isCore(core) || !isWord(word)) {
            throw new IndexOutOfBoundsException();
        }
        return wordSeenBy(cores[core], word);
    }

    public int told(int core, int what) throws IndexOutOfBoundsException, IllegalArgumentException {
        if (!isCore(core)) {
            throw new IndexOutOfBoundsException();
        }
        if (what < 0 || what >= TOLD_OF_CORE) {
            throw new IllegalArgumentException();
        }
        return factOf(cores[core], what);
    }

    public int records() {
        return broken.count;
    }

    public int record(int k, int what) throws IndexOutOfBoundsException, IllegalArgumentException {
        if (k < 0 || k >= broken.count) {
            throw new IndexOutOfBoundsException();
        }
        if (what < 0 || what >= RECORD_FIELDS) {
            throw new IllegalArgumentException();
        }
        return broken.field(k, what);
    }

    public void clear() {
        for (int n = 0; n < cores.length; n++) {
            cores[n].reset();
        }
        for (int n = 0; n < WORDS; n++) {
            memory[n] = 0;
        }
        program.length = 0;
        broken.forget();
        lastAge = 0;
    }

    private static int nearest(int value, int least, int most) {
        return Math.max(least, Math.min(most, value));
    }

    private static boolean isRegister(int register) {
        return register >= 0 && register < REGISTERS;
    }

    private static boolean isWord(int word) {
        return word >= 0 && word < WORDS;
    }

    private static boolean isManyPicks(int picks) {
        return picks >= 0 && picks <= MOST_PICKS;
    }

    private boolean isCore(int core) {
        return core >= 0 && core < cores.length;
    }

    /** Whether all registers that the operation names are there; what it does not name is free. */
    private static boolean namesRegisters(int operation, int a, int b, int c) {
        boolean namesA = operation <= OTHER || operation == ABORT;
        boolean namesB = operation >= ADD && operation <= OTHER;
        boolean namesC = operation >= ADD && operation <= MUL;
        return (!namesA || isRegister(a)) && (!namesB || isRegister(b)) && (!namesC || isRegister(c));
    }

    /** One pick of a core: 1 if it retired an instruction, else 0. */
    private int step(Core core) {
        if (core.ended) {
            return 0;
        }
        boolean retired = false;
        if (core.place < 0 || core.place >= program.length) {
            fault(core);
        } else {
            retired = execute(core, core.place);
        }
        if (!retired) {
            return 0;
        }
        core.retired++;
        return 1;
    }

    /** Whether the instruction is retired; a fault or a break-off has set the place itself. */
    private boolean execute(Core core, int at) {
        int[] r = core.registers;
        int a = program.a[at];
        int b = program.b[at];
        int c = program.c[at];
        int next = at + 1;
        switch (program.operations[at]) {
            case SET:
                core.put(a, c);
                break;
            case ADD:
                core.put(a, r[b] + r[c]);
                break;
            case SUB:
                core.put(a, r[b] - r[c]);
                break;
            case MUL:
                core.put(a, r[b] * r[c]);
                break;
            case MORE:
                core.put(a, r[b] + c);
                break;
            case LOAD:
                if (!mayAccess(core, r[b] + c, false)) {
                    return false;
                }
                core.put(a, wordSeenBy(core, r[b] + c));
                break;
            case STORE:
                if (!mayAccess(core, r[b] + c, true)) {
                    return false;
                }
                write(core, r[b] + c, r[a]);
                break;
            case LESS:
                next = r[a] < r[b] ? c : next;
                break;
            case OTHER:
                next = r[a] != r[b] ? c : next;
                break;
            case JUMP:
                next = c;
                break;
            default:
                if (!executeTransactional(core, at)) {
                    return false;
                }
                break;
        }
        core.place = next;
        return true;
    }

    /** The operations that begin or end a transaction, or may; whether it is retired. */
    private boolean executeTransactional(Core core, int at) {
        switch (program.operations[at]) {
            case BEGIN:
                return begin(core, at);
            case END:
                end(core);
                return true;
            case ABORT:
                return !breaksOff(core, CODE_ABORT + core.registers[program.a[at]]);
            default:
                core.ended = !breaksOff(core, CODE_HALT);
                return core.ended;
        }
    }

    private boolean begin(Core core, int at) {
        Transaction transaction = core.transaction;
        if (transaction.depth >= MOST_DEEP) {
            breakOff(core, CODE_TOO_DEEP);
            return false;
        }
        if (transaction.depth == 0) {
            lastAge++;
            transaction.open(lastAge, at, program.c[at], core.registers);
        }
        transaction.depth++;
        return true;
    }

    private void end(Core core) {
        Transaction transaction = core.transaction;
        if (transaction.depth == 1) {
            transaction.writeTo(memory);
            transaction.close();
            core.committed++;
        } else if (transaction.depth > 1) {
            transaction.depth--;
        }
    }

    private void write(Core core, int word, int v) {
        if (core.transaction.depth > 0) {
            core.transaction.keep(word, v);
        } else {
            memory[word] = v;
        }
    }

    /** Clears the way to a word and marks its line; false after a fault or a break-off of this core. */
    private boolean mayAccess(Core core, int word, boolean writes) {
        if (!isWord(word)) {
            fault(core);
            return false;
        }
        int line = word / LINE_WORDS;
        if (meetsOlder(core, line, writes)) {
            breakOff(core, CODE_CONFLICT);
            return false;
        }
        // The others lose theirs even if this core then finds no room: the document looks for it last.
        breakOffAll(core.number, line, writes);
        if (core.transaction.depth == 0) {
            return true;
        }
        core.transaction.mark(line, writes);
        if (core.transaction.linesInSet(line % sets, sets) > ways) {
            breakOff(core, CODE_NO_ROOM);
            return false;
        }
        return true;
    }

    /** A core without a transaction meets none: its age is 0. */
    private boolean meetsOlder(Core core, int line, boolean writes) {
        for (int n = 0; n < cores.length; n++) {
            Transaction other = cores[n].transaction;
            if (n != core.number && other.touches(line, writes) && other.age < core.transaction.age) {
                return true;
            }
        }
        return false;
    }

    /** Breaks off what conflicts with an access to the line by that core, or by NONE of them. */
    private void breakOffAll(int accessing, int line, boolean writes) {
        for (int n = 0; n < cores.length; n++) {
            if (n != accessing && cores[n].transaction.touches(line, writes)) {
                breakOff(cores[n], CODE_CONFLICT);
            }
        }
    }

    private void fault(Core core) {
        if (core.transaction.depth > 0) {
            breakOff(core, CODE_FAULT);
        } else {
            core.ended = true;
        }
    }

    /** Whether there was a transaction to be broken off. */
    private boolean breaksOff(Core core, int code) {
        if (core.transaction.depth == 0) {
            return false;
        }
        breakOff(core, code);
        return true;
    }

    private void breakOff(Core core, int code) {
        Transaction transaction = core.transaction;
        broken.add(core.number, transaction.beginPlace, code, transaction.age);
        System.arraycopy(transaction.keptRegisters, 0, core.registers, 0, REGISTERS);
        core.put(CODE_REGISTER, code);
        core.place = transaction.keptPlace;
        core.brokenOff++;
        transaction.close();
    }

    private int wordSeenBy(Core core, int word) {
        return core.transaction.hasStored(word) ? core.transaction.storedWords[word] : memory[word];
    }

    private static int factOf(Core core, int what) {
        Transaction transaction = core.transaction;
        switch (what) {
            case 0:
                return core.place;
            case 1:
                return core.ended ? 1 : 0;
            case 2:
                return core.retired;
            case 3:
                return transaction.depth;
            case 4:
                return transaction.age;
            case 5:
                return Integer.bitCount(transaction.linesRead);
            case 6:
                return Integer.bitCount(transaction.linesWritten);
            case 7:
                return Long.bitCount(transaction.stored);
            case 8:
                return core.committed;
            default:
                return core.brokenOff;
        }
    }

    private static final class Core {
        final int number;
        final int[] registers = new int[REGISTERS];
        final Transaction transaction = new Transaction();
        int place;
        boolean ended;
        int retired;
        int committed;
        int brokenOff;

        Core(int number) {
            this.number = number;
        }

        void put(int register, int v) {
            if (register != 0) {
                registers[register] = v;
            }
        }

        void reset() {
            for (int n = 0; n < REGISTERS; n++) {
                registers[n] = 0;
            }
            transaction.close();
            place = 0;
            ended = false;
            retired = 0;
            committed = 0;
            brokenOff = 0;
        }
    }

    /** A core's transaction: there is one while it is deeper than 0. Lines and words are bits. */
    private static final class Transaction {
        final int[] keptRegisters = new int[REGISTERS];
        final int[] storedWords = new int[WORDS];
        int depth;
        int age;
        int beginPlace;
        int keptPlace;
        int linesRead;
        int linesWritten;
        long stored;

        void open(int newAge, int begunAt, int placeToGoOn, int[] registers) {
            age = newAge;
            beginPlace = begunAt;
            keptPlace = placeToGoOn;
            System.arraycopy(registers, 0, keptRegisters, 0, REGISTERS);
        }

        void close() {
            depth = 0;
            age = 0;
            linesRead = 0;
            linesWritten = 0;
            stored = 0L;
        }

        void mark(int line, boolean writes) {
            if (writes) {
                linesWritten |= 1 << line;
            } else {
                linesRead |= 1 << line;
            }
        }

        /** Whether an access of another core to the line would conflict with this. */
        boolean touches(int line, boolean writes) {
            int lines = writes ? linesRead | linesWritten : linesWritten;
            return (lines >> line & 1) == 1;
        }

        int linesInSet(int set, int sets) {
            int count = 0;
            for (int line = 0; line < LINES; line++) {
                if (line % sets == set) {
                    count += (linesRead | linesWritten) >> line & 1;
                }
            }
            return count;
        }

        void keep(int word, int v) {
            stored |= 1L << word;
            storedWords[word] = v;
        }

        boolean hasStored(int word) {
            return (stored >> word & 1L) == 1L;
        }

        void writeTo(int[] memory) {
            for (int word = 0; word < WORDS; word++) {
                if (hasStored(word)) {
                    memory[word] = storedWords[word];
                }
            }
        }
    }

    private static final class Program {
        final int[] operations = new int[MOST_INSTRUCTIONS];
        final int[] a = new int[MOST_INSTRUCTIONS];
        final int[] b = new int[MOST_INSTRUCTIONS];
        final int[] c = new int[MOST_INSTRUCTIONS];
        int length;

        int append(int operation, int newA, int newB, int newC) {
            int number = length;
            operations[number] = operation;
            a[number] = newA;
            b[number] = newB;
            c[number] = newC;
            length++;
            return number;
        }
    }

    /** The last transactions broken off, in rows that are written over in a ring. */
    private static final class Records {
        final int[] fields = new int[MOST_RECORDS * RECORD_FIELDS];
        int count;
        int oldest;

        void add(int core, int beginPlace, int code, int age) {
            int row = (oldest + count) % MOST_RECORDS * RECORD_FIELDS;
            fields[row] = core;
            fields[row + 1] = beginPlace;
            fields[row + 2] = code;
            fields[row + 3] = age;
            if (count < MOST_RECORDS) {
                count++;
            } else {
                oldest = (oldest + 1) % MOST_RECORDS;
            }
        }

        int field(int k, int what) {
            return fields[(oldest + k) % MOST_RECORDS * RECORD_FIELDS + what];
        }

        void forget() {
            count = 0;
            oldest = 0;
        }
    }
}
