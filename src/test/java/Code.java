/** Makes the words of instructions. */
final class Code {
    static final int ADD = 0;
    static final int AND = 1;
    static final int OR = 2;
    static final int XOR = 3;
    static final int SUB = 4;
    static final int AND_NOT = 5;
    static final int OR_NOT = 6;
    static final int XOR_NOT = 7;
    static final int ADD_CARRY = 8;
    static final int SUB_CARRY = 12;
    static final int FLAGS = 16;
    static final int LEFT = 37;
    static final int RIGHT = 38;
    static final int RIGHT_SIGN = 39;
    static final int READ_STATUS = 41;
    static final int READ_INVALID = 42;
    static final int READ_TABLE = 43;
    static final int WRITE_STATUS = 49;
    static final int WRITE_INVALID = 50;
    static final int WRITE_TABLE = 51;
    static final int JUMP = 56;
    static final int RETURN = 57;
    static final int TRAP = 58;
    static final int SAVE = 60;
    static final int RESTORE = 61;

    static final int WORD = 0;
    static final int BYTE = 1;
    static final int HALF = 2;
    static final int TWO = 3;
    static final int STORE_WORD = 4;
    static final int STORE_BYTE = 5;
    static final int STORE_HALF = 6;
    static final int STORE_TWO = 7;
    static final int BYTE_SIGN = 9;
    static final int HALF_SIGN = 10;
    static final int BYTE_255 = 13;
    static final int EXCHANGE = 15;

    static final int ALWAYS = 8;
    static final int NOTHING = high(0, 0);

    private Code() {
    }

    static int call(int words) {
        return 1 << 30 | (words & 0x3FFFFFFF);
    }

    static int high(int d, int v) {
        return d << 25 | 4 << 22 | (v & 0x3FFFFF);
    }

    static int branch(int condition, boolean annul, int words) {
        return (annul ? 1 << 29 : 0) | condition << 25 | 2 << 22 | (words & 0x3FFFFF);
    }

    static int op(int kind, int d, int a, int b) {
        return 2 << 30 | d << 25 | kind << 19 | a << 14 | b;
    }

    static int opNumber(int kind, int d, int a, int number) {
        return 2 << 30 | d << 25 | kind << 19 | a << 14 | 1 << 13 | (number & 0x1FFF);
    }

    static int move(int kind, int d, int a, int b) {
        return 3 << 30 | d << 25 | kind << 19 | a << 14 | b;
    }

    static int moveNumber(int kind, int d, int a, int number) {
        return 3 << 30 | d << 25 | kind << 19 | a << 14 | 1 << 13 | (number & 0x1FFF);
    }
}
