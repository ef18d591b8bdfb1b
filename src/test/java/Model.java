import java.util.ArrayList;
import java.util.LinkedList;
import java.util.List;
import java.util.Map;
import java.util.TreeMap;
import java.util.TreeSet;

/** The document written a second time, with collections and without a thought of speed. */
final class Model {
    private record Instruction(int operation, int a, int b, int c) { }

    private record Broken(int core, int place, int code, int age) { }

    private static final class Open {
        int deep = 1;
        int age;
        int begin;
        int goOn;
        int[] kept;
        final TreeSet<Integer> read = new TreeSet<>();
        final TreeSet<Integer> written = new TreeSet<>();
        final Map<Integer, Integer> stored = new TreeMap<>();
    }

    private static final class One {
        int place;
        boolean ended;
        int retired;
        int committed;
        int brokenOff;
        int[] registers = new int[8];
        Open open;
    }

    private final int sets;
    private final int ways;
    private final List<One> cores = new ArrayList<>();
    private final Map<Integer, Integer> memory = new TreeMap<>();
    private final List<Instruction> program = new ArrayList<>();
    private final LinkedList<Broken> records = new LinkedList<>();
    private int begun;

    Model(int cores, int sets, int ways) {
        this.sets = sets <= 0 ? 1 : sets == 1 ? 2 : 4;
        this.ways = ways < 1 ? 1 : ways > 4 ? 4 : ways;
        int many = cores < 1 ? 1 : cores > 4 ? 4 : cores;
        while (this.cores.size() < many) {
            this.cores.add(new One());
        }
    }

    int instruction(int operation, int a, int b, int c) {
        boolean fine = switch (operation) {
            case 0, 12 -> isRegister(a);
            case 1, 2, 3 -> isRegister(a) && isRegister(b) && isRegister(c);
            case 4, 5, 6, 7, 8 -> isRegister(a) && isRegister(b);
            case 9, 10, 11, 13 -> true;
            default -> false;
        };
        illegalUnless(fine);
        if (program.size() == 80) {
            throw new UnsupportedOperationException();
        }
        program.add(new Instruction(operation, a, b, c));
        return program.size() - 1;
    }

    int start(int core, int place) {
        One one = coreAt(core);
        illegalUnless(place >= 0 && place <= 80);
        int before = one.place;
        one.place = place;
        one.ended = false;
        one.open = null;
        return before;
    }

    int set(int core, int register, int v) {
        One one = coreAt(core);
        indexUnless(isRegister(register));
        int before = one.registers[register];
        write(one, register, v);
        return before;
    }

    int poke(int word, int v) {
        indexUnless(isWord(word));
        for (One one : cores) {
            if (one.open != null && (one.open.read.contains(word / 4) || one.open.written.contains(word / 4))) {
                lose(one, 4);
            }
        }
        int before = memory.getOrDefault(word, 0);
        memory.put(word, v);
        return before;
    }

    int pick(int core, int times) {
        One one = coreAt(core);
        illegalUnless(times >= 0 && times <= 2000);
        int before = one.retired;
        for (int n = 0; n < times; n++) {
            pickOnce(one);
        }
        return one.retired - before;
    }

    int run(int seed, int picks) {
        illegalUnless(picks >= 0 && picks <= 2000);
        int all = 0;
        for (int n = 0; n < picks; n++) {
            seed = seed * 1103515245 + 12345;
            One one = cores.get(((seed >> 16) & 0xFFFF) % cores.size());
            int before = one.retired;
            pickOnce(one);
            all += one.retired - before;
        }
        return all;
    }

    int register(int core, int register) {
        One one = coreAt(core);
        indexUnless(isRegister(register));
        return one.registers[register];
    }

    int word(int word) {
        indexUnless(isWord(word));
        return memory.getOrDefault(word, 0);
    }

    int seen(int core, int word) {
        One one = coreAt(core);
        indexUnless(isWord(word));
        return look(one, word);
    }

    int told(int core, int what) {
        One one = coreAt(core);
        illegalUnless(what >= 0 && what <= 9);
        Open open = one.open;
        int[] facts = {one.place, one.ended ? 1 : 0, one.retired, open == null ? 0 : open.deep,
                open == null ? 0 : open.age, open == null ? 0 : open.read.size(),
                open == null ? 0 : open.written.size(), open == null ? 0 : open.stored.size(), one.committed,
                one.brokenOff};
        return facts[what];
    }

    int records() {
        return records.size();
    }

    int record(int k, int what) {
        indexUnless(k >= 0 && k < records.size());
        illegalUnless(what >= 0 && what <= 3);
        Broken broken = records.get(k);
        int[] facts = {broken.core, broken.place, broken.code, broken.age};
        return facts[what];
    }

    void clear() {
        memory.clear();
        program.clear();
        records.clear();
        begun = 0;
        cores.replaceAll(one -> new One());
    }

    private void pickOnce(One one) {
        if (one.ended) {
            return;
        }
        if (one.place < 0 || one.place >= program.size()) {
            fault(one);
            return;
        }
        Instruction i = program.get(one.place);
        int was = one.place;
        Integer next = next(one, i);
        if (next != null) {
            if (one.place != was) {
                throw new AssertionError("the model moved twice");
            }
            one.place = next;
            one.retired++;
        }
    }

    /** The next place, or null if the instruction is not retired. */
    private Integer next(One one, Instruction i) {
        int behind = one.place + 1;
        int[] r = one.registers;
        if (i.operation == 0) {
            write(one, i.a, i.c);
        } else if (i.operation == 1) {
            write(one, i.a, r[i.b] + r[i.c]);
        } else if (i.operation == 2) {
            write(one, i.a, r[i.b] - r[i.c]);
        } else if (i.operation == 3) {
            write(one, i.a, r[i.b] * r[i.c]);
        } else if (i.operation == 4) {
            write(one, i.a, r[i.b] + i.c);
        } else if (i.operation == 5 || i.operation == 6) {
            return access(one, i, r[i.b] + i.c) ? behind : null;
        } else if (i.operation == 7) {
            return r[i.a] < r[i.b] ? i.c : behind;
        } else if (i.operation == 8) {
            return r[i.a] != r[i.b] ? i.c : behind;
        } else if (i.operation == 9) {
            return i.c;
        } else if (i.operation == 10) {
            return begin(one, i.c) ? behind : null;
        } else if (i.operation == 11) {
            end(one);
        } else if (i.operation == 12 && one.open != null) {
            lose(one, 256 + r[i.a]);
            return null;
        } else if (i.operation == 13 && one.open != null) {
            lose(one, 5);
            return null;
        } else if (i.operation == 13) {
            one.ended = true;
        }
        return behind;
    }

    private boolean begin(One one, int goOn) {
        if (one.open == null) {
            begun++;
            one.open = new Open();
            one.open.age = begun;
            one.open.begin = one.place;
            one.open.goOn = goOn;
            one.open.kept = one.registers.clone();
            return true;
        }
        if (one.open.deep == 8) {
            lose(one, 2);
            return false;
        }
        one.open.deep++;
        return true;
    }

    private void end(One one) {
        if (one.open == null) {
            return;
        }
        one.open.deep--;
        if (one.open.deep == 0) {
            memory.putAll(one.open.stored);
            one.open = null;
            one.committed++;
        }
    }

    private boolean access(One one, Instruction i, int word) {
        if (!isWord(word)) {
            fault(one);
            return false;
        }
        boolean stores = i.operation == 6;
        int line = word / 4;
        List<One> conflicts = new ArrayList<>();
        for (One other : cores) {
            if (other != one && other.open != null && (other.open.written.contains(line)
                    || (stores && other.open.read.contains(line)))) {
                conflicts.add(other);
            }
        }
        if (one.open != null && conflicts.stream().anyMatch(other -> other.open.age < one.open.age)) {
            lose(one, 4);
            return false;
        }
        for (One other : conflicts) {
            lose(other, 4);
        }
        if (one.open != null) {
            TreeSet<Integer> lines = new TreeSet<>(one.open.read);
            lines.addAll(one.open.written);
            lines.add(line);
            lines.removeIf(there -> there % sets != line % sets);
            if (lines.size() > ways) {
                lose(one, 3);
                return false;
            }
        }
        if (stores && one.open == null) {
            memory.put(word, one.registers[i.a]);
        } else if (stores) {
            one.open.written.add(line);
            one.open.stored.put(word, one.registers[i.a]);
        } else {
            if (one.open != null) {
                one.open.read.add(line);
            }
            write(one, i.a, look(one, word));
        }
        return true;
    }

    private void fault(One one) {
        if (one.open == null) {
            one.ended = true;
        } else {
            lose(one, 1);
        }
    }

    private void lose(One one, int code) {
        records.addLast(new Broken(cores.indexOf(one), one.open.begin, code, one.open.age));
        if (records.size() > 100) {
            records.removeFirst();
        }
        one.registers = one.open.kept;
        one.registers[1] = code;
        one.place = one.open.goOn;
        one.brokenOff++;
        one.open = null;
    }

    private int look(One one, int word) {
        if (one.open != null && one.open.stored.containsKey(word)) {
            return one.open.stored.get(word);
        }
        return memory.getOrDefault(word, 0);
    }

    private static void write(One one, int register, int v) {
        one.registers[register] = v;
        one.registers[0] = 0;
    }

    private One coreAt(int core) {
        indexUnless(core >= 0 && core < cores.size());
        return cores.get(core);
    }

    private static boolean isRegister(int register) {
        return register >= 0 && register <= 7;
    }

    private static boolean isWord(int word) {
        return word >= 0 && word <= 63;
    }

    private static void indexUnless(boolean fine) {
        if (!fine) {
            throw new IndexOutOfBoundsException();
        }
    }

    private static void illegalUnless(boolean fine) {
        if (!fine) {
            throw new IllegalArgumentException();
        }
    }
}
