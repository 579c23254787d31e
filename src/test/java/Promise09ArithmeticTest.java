import java.math.BigInteger;

/** Promise 9: sums, differences, logic, shifts and flags. */
public final class Promise09ArithmeticTest {
    private static final int[] VALUES = {0, 1, 2, -1, -2, 4095, -4096, 0x7FFFFFFF, 0x80000000, 0x80000001,
        0x12345678, 0xF0F0F0F0};

    public static void main(String[] args) {
        int[] kinds = {Code.ADD, Code.AND, Code.OR, Code.XOR, Code.SUB, Code.AND_NOT, Code.OR_NOT, Code.XOR_NOT,
            Code.ADD_CARRY, Code.SUB_CARRY};
        for (int kind : kinds) {
            for (int a : VALUES) {
                for (int b : VALUES) {
                    operate(kind, a, b, 0);
                    operate(kind, a, b, 1);
                }
            }
        }
        shifts();
        numbers();
        registerZero();
        high();
        sameRegister();
        Check.end();
    }

    private static void operate(int kind, int a, int b, int carry) {
        // All flags but C begin as the opposite of nothing, so that a flag that is not written is seen.
        int old = Bench.KERNEL | Bench.N | Bench.Z | Bench.V | (carry == 1 ? Bench.C : 0);
        WindowCore x = Bench.with(Code.op(kind, 10, 8, 9), Code.op(kind + Code.FLAGS, 11, 8, 9));
        x.set(0, 8, a);
        x.set(0, 9, b);
        x.control(Bench.STATUS, old);
        String what = "kind " + kind + " of " + a + ", " + b + ", " + carry;
        int result = resultOf(kind, a, b, carry);
        Check.due(what, x.step(), 0);
        Check.due(what + ": result", x.register(0, 10), result);
        Check.due(what + ": STATUS", x.look(Bench.STATUS), old);
        Check.due(what + " with flags", x.step(), 0);
        Check.due(what + ": result with flags", x.register(0, 11), result);
        Check.due(what + ": flags", x.look(Bench.STATUS), Bench.KERNEL | flagsOf(kind, a, b, carry, result));
        Bench.places(what, x, 8, 12);
    }

    private static int resultOf(int kind, int a, int b, int carry) {
        switch (kind) {
            case Code.ADD: return a + b;
            case Code.AND: return a & b;
            case Code.OR: return a | b;
            case Code.XOR: return a ^ b;
            case Code.SUB: return a - b;
            case Code.AND_NOT: return a & ~b;
            case Code.OR_NOT: return a | ~b;
            case Code.XOR_NOT: return ~(a ^ b);
            case Code.ADD_CARRY: return a + b + carry;
            default: return a - b - carry;
        }
    }

    private static int flagsOf(int kind, int a, int b, int carry, int result) {
        int flags = (result < 0 ? Bench.N : 0) | (result == 0 ? Bench.Z : 0);
        boolean isSum = kind == Code.ADD || kind == Code.ADD_CARRY;
        boolean isDifference = kind == Code.SUB || kind == Code.SUB_CARRY;
        if (!isSum && !isDifference) {
            return flags;
        }
        int used = kind == Code.ADD_CARRY || kind == Code.SUB_CARRY ? carry : 0;
        BigInteger signed = exact(isSum, BigInteger.valueOf(a), BigInteger.valueOf(b), used);
        BigInteger plain = exact(isSum, plainly(a), plainly(b), used);
        boolean fits = signed.equals(BigInteger.valueOf(result));
        return flags | (fits ? 0 : Bench.V) | (plain.equals(plainly(result)) ? 0 : Bench.C);
    }

    private static BigInteger exact(boolean isSum, BigInteger a, BigInteger b, int carry) {
        BigInteger both = b.add(BigInteger.valueOf(carry));
        return isSum ? a.add(both) : a.subtract(both);
    }

    private static BigInteger plainly(int v) {
        return new BigInteger(Integer.toUnsignedString(v));
    }

    private static void shifts() {
        for (int a : VALUES) {
            for (int distance = 0; distance < 32; distance++) {
                for (int more : new int[] {0, 32, -64}) {
                    WindowCore x = Bench.with(Code.op(Code.LEFT, 10, 8, 9), Code.op(Code.RIGHT, 11, 8, 9),
                        Code.op(Code.RIGHT_SIGN, 12, 8, 9), Code.opNumber(Code.RIGHT, 13, 8, distance + more));
                    x.set(0, 8, a);
                    x.set(0, 9, distance + more);
                    x.control(Bench.STATUS, Bench.KERNEL | Bench.V);
                    x.run(4);
                    String what = a + " shifted by " + (distance + more);
                    Check.due(what + " left", x.register(0, 10), a << distance);
                    Check.due(what + " right", x.register(0, 11), a >>> distance);
                    Check.due(what + " right with sign", x.register(0, 12), a >> distance);
                    Check.due(what + " right by number", x.register(0, 13), a >>> distance);
                    Check.due(what + ": STATUS", x.look(Bench.STATUS), Bench.KERNEL | Bench.V);
                }
            }
        }
    }

    private static void numbers() {
        for (int number : new int[] {0, 1, 31, 4095, -1, -4096, -4095}) {
            WindowCore x = Bench.with(Code.opNumber(Code.ADD, 10, 8, number));
            x.set(0, 8, 10000);
            x.step();
            Check.due("10000 + " + number, x.register(0, 10), 10000 + number);
        }
        // Bits 5 .. 12 have no meaning where B is a register.
        WindowCore y = Bench.with(Code.op(Code.ADD, 10, 8, 9) | 0xFF << 5);
        y.set(0, 8, 1);
        y.set(0, 9, 2);
        Check.due("bits 5 .. 12 set", y.step(), 0);
        Check.due("1 + 2", y.register(0, 10), 3);
    }

    private static void registerZero() {
        WindowCore x = Bench.with(Code.opNumber(Code.ADD + Code.FLAGS, 0, 0, -1), Code.op(Code.ADD, 9, 0, 0),
            Code.high(0, 5));
        Check.due("a result to register 0", x.step(), 0);
        Check.due("register 0", x.register(0, 0), 0);
        Check.due("its flags", x.look(Bench.STATUS), Bench.KERNEL | Bench.N);
        x.set(0, 9, 4);
        x.run(2);
        Check.due("0 + 0", x.register(0, 9), 0);
        Check.due("register 0 after 4", x.register(0, 0), 0);
    }

    private static void high() {
        WindowCore x = Bench.with(Code.high(9, 0x3FFFFF), Code.high(31, 1), Code.high(1, 0x200000));
        x.set(0, 9, 7);
        Check.due("high", x.step(), 0);
        x.run(2);
        Check.due("all of bits 0 .. 21", x.register(0, 9), 0xFFFFFC00);
        Check.due("1 * 1024", x.register(0, 31), 1024);
        Check.due("in the next window", x.register(1, 15), 1024);
        Check.due("the highest bit", x.register(5, 1), 0x80000000);
        Bench.places("after three", x, 12, 16);
    }

    private static void sameRegister() {
        WindowCore x = Bench.with(Code.op(Code.ADD, 8, 8, 8), Code.op(Code.SUB + Code.FLAGS, 8, 8, 8));
        x.set(0, 8, 21);
        x.step();
        Check.due("doubled", x.register(0, 8), 42);
        x.step();
        Check.due("less itself", x.register(0, 8), 0);
        Check.due("flags", x.look(Bench.STATUS), Bench.KERNEL | Bench.Z);
    }
}
