/** The numbers of the document, by the names that the tests use. */
interface Codes {
    int SET = 0, ADD = 1, TELL = 2, LOAD = 3, STORE = 4, CALL = 5, IF = 6, GOTO = 7, BACK = 8;
    int BANKS = 0, SIZE = 1, COMMON = 2, STACK = 3, CELLS = 4;
    int NONE = -1, BAD = -2, STATE = -3, FULL = -4, SPENT = -5;
    int KIND_COMMON = 0, KIND_BANK = 1;
    /** Arguments far outside of every range. */
    int[] WILD = {Integer.MIN_VALUE, -1000, -2, Integer.MAX_VALUE, 100000};
}
