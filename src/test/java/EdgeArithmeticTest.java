/** Edges of the terms: sums, differences, logic, shifts, and what the flags become. */
public final class EdgeArithmeticTest {
    private static final int MOST = 0x7FFFFFFF;
    private static final int LEAST = 0x80000000;
    private static final int C = Bench.C;
    private static final int V = Bench.V;
    private static final int Z = Bench.Z;
    private static final int N = Bench.N;

    public static void main(String[] args) {
        eachOperation();
        negativeAndZero();
        overflowOfSums();
        overflowOfDifferences();
        carryOutOfSums();
        borrowIntoDifferences();
        plainSumsTakeNoCarry();
        logicClearsCarryAndOverflow();
        flagsOnlyWith16More();
        otherStatusStays();
        shiftsOfFiveBits();
        shiftsLeaveFlags();
        Check.end();
    }

    /** One with flags of both carries as they may begin: its result and its flags. */
    private static void flags(int kind, int a, int b, int carry, int result, int flags) {
        String what = "kind " + kind + " of " + a + ", " + b + ", carry " + carry;
        WindowCore x = Bench.done(kind + Code.FLAGS, a, b, Bench.KERNEL | (carry == 0 ? N | Z | V : N | Z | V | C));
        Check.due(what, x.register(0, 10), result);
        Check.due(what + ": flags", x.look(Bench.STATUS), Bench.KERNEL | flags);
    }

    private static void eachOperation() {
        Check.sentence("0 A + B, 1 A and B, 2 A or B, 3 A xor B, 4 A - B, 5 A and not B, 6 A or not B, "
            + "7 A xor not B, 8 A + B + C, 12 A - B - C: to register D");
        int[] kinds = {0, 1, 2, 3, 4, 5, 6, 7, 8, 12};
        // Of 0011 and 0101, so that each pair of bits is there once.
        int[] due = {8, 1, 7, 6, -2, 2, ~4, ~6, 9, -3};
        for (int i = 0; i < kinds.length; i++) {
            Check.due("kind " + kinds[i], Bench.done(kinds[i], 3, 5, C).register(0, 10), due[i]);
            Check.due("kind " + (kinds[i] + 16), Bench.done(kinds[i] + 16, 3, 5, C).register(0, 10), due[i]);
        }
    }

    private static void negativeAndZero() {
        Check.sentence("N, Z of the result");
        flags(Code.ADD, 0, 0, 0, 0, Z);
        flags(Code.ADD, 0, 1, 0, 1, 0);
        flags(Code.ADD, 0, -1, 0, -1, N);
        flags(Code.ADD, 0, MOST, 0, MOST, 0);
        flags(Code.ADD, 0, LEAST, 0, LEAST, N);
        flags(Code.OR, 0, 0, 0, 0, Z);
        flags(Code.OR, LEAST, 1, 0, LEAST + 1, N);
        flags(Code.AND, LEAST, MOST, 0, 0, Z);
    }

    private static void overflowOfSums() {
        Check.sentence("of sums and differences V if the result with sign is not exact");
        flags(Code.ADD, MOST, 0, 0, MOST, 0);
        flags(Code.ADD, MOST, 1, 0, LEAST, N | V);
        flags(Code.ADD, MOST, MOST, 0, -2, N | V);
        flags(Code.ADD, LEAST, 0, 0, LEAST, N);
        flags(Code.ADD, LEAST, -1, 0, MOST, V | C);
        flags(Code.ADD, LEAST, LEAST, 0, 0, Z | V | C);
        flags(Code.ADD_CARRY, MOST, 0, 0, MOST, 0);
        flags(Code.ADD_CARRY, MOST, 0, 1, LEAST, N | V);
        flags(Code.ADD_CARRY, 0, MOST, 1, LEAST, N | V);
        flags(Code.ADD_CARRY, MOST, MOST, 1, -1, N | V);
        flags(Code.ADD_CARRY, LEAST, -1, 1, LEAST, N | C);
        flags(Code.ADD_CARRY, LEAST, LEAST, 1, 1, V | C);
    }

    private static void overflowOfDifferences() {
        Check.sentence("of sums and differences V if the result with sign is not exact");
        flags(Code.SUB, LEAST, 0, 0, LEAST, N);
        flags(Code.SUB, LEAST, 1, 0, MOST, V);
        flags(Code.SUB, MOST, -1, 0, LEAST, N | V | C);
        flags(Code.SUB, 0, LEAST, 0, LEAST, N | V | C);
        flags(Code.SUB, -1, LEAST, 0, MOST, 0);
        flags(Code.SUB_CARRY, LEAST, 0, 0, LEAST, N);
        flags(Code.SUB_CARRY, LEAST, 0, 1, MOST, V);
        flags(Code.SUB_CARRY, MOST, -1, 1, MOST, C);
        flags(Code.SUB_CARRY, 0, LEAST, 1, MOST, C);
        flags(Code.SUB_CARRY, -1, MOST, 0, LEAST, N);
        flags(Code.SUB_CARRY, -1, MOST, 1, MOST, V);
    }

    private static void carryOutOfSums() {
        Check.sentence("C if there is a carry out of, or a borrow into, bit 31");
        flags(Code.ADD, -1, 0, 0, -1, N);
        flags(Code.ADD, -1, 1, 0, 0, Z | C);
        flags(Code.ADD, 1, -1, 0, 0, Z | C);
        flags(Code.ADD, -1, -1, 0, -2, N | C);
        flags(Code.ADD_CARRY, -1, 0, 0, -1, N);
        flags(Code.ADD_CARRY, -1, 0, 1, 0, Z | C);
        flags(Code.ADD_CARRY, 0, -1, 1, 0, Z | C);
        flags(Code.ADD_CARRY, -1, -1, 1, -1, N | C);
        flags(Code.ADD_CARRY, -2, 0, 1, -1, N);
    }

    private static void borrowIntoDifferences() {
        Check.sentence("C if there is a carry out of, or a borrow into, bit 31");
        flags(Code.SUB, 0, 0, 0, 0, Z);
        flags(Code.SUB, 0, 1, 0, -1, N | C);
        flags(Code.SUB, 1, 1, 0, 0, Z);
        flags(Code.SUB, 1, 2, 0, -1, N | C);
        flags(Code.SUB, -1, -1, 0, 0, Z);
        flags(Code.SUB, -2, -1, 0, -1, N | C);
        flags(Code.SUB, -1, 0, 0, -1, N);
        flags(Code.SUB_CARRY, 0, 0, 0, 0, Z);
        flags(Code.SUB_CARRY, 0, 0, 1, -1, N | C);
        flags(Code.SUB_CARRY, 1, 0, 1, 0, Z);
        flags(Code.SUB_CARRY, -1, -1, 1, -1, N | C);
        flags(Code.SUB_CARRY, 0, -1, 1, 0, Z | C);
    }

    private static void plainSumsTakeNoCarry() {
        Check.sentence("0 A + B");
        flags(Code.ADD, 5, 6, 1, 11, 0);
        flags(Code.ADD, -1, 0, 1, -1, N);
        Check.sentence("4 A - B");
        flags(Code.SUB, 5, 5, 1, 0, Z);
        flags(Code.SUB, LEAST, 0, 1, LEAST, N);
    }

    private static void logicClearsCarryAndOverflow() {
        Check.sentence("of others both 0");
        int[] kinds = {Code.AND, Code.OR, Code.XOR, Code.AND_NOT, Code.OR_NOT, Code.XOR_NOT};
        int[] ofOnes = {-1, -1, 0, 0, -1, -1};
        int[] ofZeros = {0, 0, 0, 0, -1, -1};
        for (int i = 0; i < kinds.length; i++) {
            flags(kinds[i], -1, -1, 1, ofOnes[i], ofOnes[i] == 0 ? Z : N);
            flags(kinds[i], 0, 0, 1, ofZeros[i], ofZeros[i] == 0 ? Z : N);
            flags(kinds[i], MOST, MOST, 0, ofOnes[i] & (kinds[i] <= Code.OR ? MOST : -1),
                ofOnes[i] == 0 ? Z : kinds[i] <= Code.OR ? 0 : N);
        }
    }

    private static void flagsOnlyWith16More() {
        Check.sentence("16 more: the flags, too");
        for (int kind : new int[] {0, 1, 2, 3, 4, 5, 6, 7, 8, 12}) {
            for (int status : new int[] {0, C | V | Z | N}) {
                WindowCore x = Bench.done(kind, LEAST, -1, status);
                Check.due("kind " + kind + ": STATUS", x.look(Bench.STATUS), status);
                WindowCore y = Bench.done(kind + 16, LEAST, -1, status);
                Check.due("kind " + (kind + 16) + ": its result", y.register(0, 10), x.register(0, 10));
                // No result is both zero and negative, so all four flags cannot be left.
                Check.holds("kind " + (kind + 16) + ": its flags", y.look(Bench.STATUS) != (C | V | Z | N));
            }
        }
    }

    private static void otherStatusStays() {
        Check.sentence("16 more: the flags, too");
        int rest = 15 << 8 | Bench.KERNEL | Bench.BEFORE | Bench.TRAPS | 7;
        Check.due("all but flags, to 0", Bench.done(16, 1, 1, rest | C | V | Z | N).look(Bench.STATUS), rest);
        Check.due("flags alone", Bench.done(16, LEAST, LEAST, 0).look(Bench.STATUS), Z | V | C);
    }

    private static void shiftsOfFiveBits() {
        Check.sentence("A shifted by the five lowest bits of B left, right without, right with sign");
        int[] by = {0, 1, 31, 32, 33, 63, -1, -32, LEAST, MOST};
        for (int b : by) {
            int n = ((b % 32) + 32) % 32;
            Check.due("left by " + b, Bench.done(Code.LEFT, 0x80000003, b, 0).register(0, 10), 0x80000003 << n);
            int right = (int) (0x80000003L >> n);
            Check.due("right by " + b, Bench.done(Code.RIGHT, 0x80000003, b, 0).register(0, 10), right);
            int signed = (int) (-0x7FFFFFFDL >> n);
            Check.due("with sign by " + b, Bench.done(Code.RIGHT_SIGN, 0x80000003, b, 0).register(0, 10), signed);
        }
        Check.due("no sign to keep", Bench.done(Code.RIGHT_SIGN, MOST, 30, 0).register(0, 10), 1);
    }

    private static void shiftsLeaveFlags() {
        Check.sentence("37, 38, 39: A shifted");
        for (int kind : new int[] {37, 38, 39}) {
            Check.due("kind " + kind, Bench.done(kind, 0, 31, 0).look(Bench.STATUS), 0);
            Check.due("kind " + kind, Bench.done(kind, -1, 0, C | V | Z | N).look(Bench.STATUS), C | V | Z | N);
        }
    }
}
