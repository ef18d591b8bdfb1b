/** The numbers that the document gives to operations, to what a core tells and to codes, and some for the edges. */
interface Names {
    int SET = 0;
    int ADD = 1;
    int SUB = 2;
    int MUL = 3;
    int MORE = 4;
    int LOAD = 5;
    int STORE = 6;
    int LESS = 7;
    int OTHER = 8;
    int JUMP = 9;
    int BEGIN = 10;
    int END = 11;
    int ABORT = 12;
    int HALT = 13;

    int PLACE = 0;
    int ENDED = 1;
    int RETIRED = 2;
    int DEEP = 3;
    int AGE = 4;
    int READ = 5;
    int WRITTEN = 6;
    int STORED = 7;
    int COMMITTED = 8;
    int BROKEN_OFF = 9;

    int FAULT = 1;
    int TOO_DEEP = 2;
    int NO_ROOM = 3;
    int CONFLICT = 4;
    int HALTED = 5;

    int MIN = Integer.MIN_VALUE;
    int MAX = Integer.MAX_VALUE;

    Class<IndexOutOfBoundsException> INDEX = IndexOutOfBoundsException.class;
    Class<IllegalArgumentException> ILLEGAL = IllegalArgumentException.class;
    Class<UnsupportedOperationException> UNSUPPORTED = UnsupportedOperationException.class;
}
