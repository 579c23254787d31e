/** Edges of the terms: the parts of an instruction, CALL, "TO x" and all others. */
public final class EdgeInstructionTest {
    public static void main(String[] args) {
        partsAtTheirMost();
        numberWithSign();
        registerOfFiveBits();
        callStoresPlace();
        callGoesAround();
        highBits();
        branchWithSign();
        jumpStoresPlace();
        toIsOneLate();
        toInTheSlot();
        othersGoOn();
        Check.end();
    }

    private static void partsAtTheirMost() {
        Check.sentence("D is its bits 25 .. 29, A the register of bits 14 .. 18");
        for (int d : new int[] {1, 16, 31}) {
            for (int a : new int[] {1, 16, 31}) {
                WindowCore x = Bench.filled(Bench.KERNEL, Code.opNumber(Code.XOR, d, a, 0));
                int was = x.register(0, a);
                Bench.changesOnly("D " + d + ", A " + a, x, x::step, Bench.PLACE, Bench.NEXT, Bench.STEPS,
                    Bench.part(0, d));
                Check.due("register " + d + " from " + a, x.register(0, d), was);
            }
        }
    }

    private static void numberWithSign() {
        Check.sentence("B, if bit 13 is 1, its bits 0 .. 12 with sign");
        int[] numbers = {0, 1, 0xFFF, 0x1000, 0x1001, 0x1FFF};
        int[] due = {0, 1, 4095, -4096, -4095, -1};
        for (int i = 0; i < numbers.length; i++) {
            WindowCore x = Bench.with(Code.opNumber(Code.ADD, 10, 0, numbers[i]));
            x.step();
            Check.due("bits " + numbers[i], x.register(0, 10), due[i]);
            WindowCore y = Bench.trapping(Code.moveNumber(Code.BYTE, 10, 8, numbers[i]));
            y.set(0, 8, 2048 - due[i]);
            y.put(2048, 0x6F000000);
            Check.due("an address with bits " + numbers[i], y.step(), 0);
            Check.due("the byte there", y.register(0, 10), 0x6F);
        }
    }

    private static void registerOfFiveBits() {
        Check.sentence("else the register of bits 0 .. 4");
        for (int b : new int[] {0, 1, 15, 16, 31}) {
            WindowCore x = Bench.filled(Bench.KERNEL, Code.op(Code.ADD, 10, 0, b) | 0x1FE0);
            int was = x.register(0, b);
            x.step();
            Check.due("register " + b + " as B, bits 5 .. 12 all 1", x.register(0, 10), was);
        }
    }

    private static void callStoresPlace() {
        Check.sentence("register 15 becomes PLACE");
        for (int window : new int[] {0, 7}) {
            WindowCore x = Bench.filled(Bench.KERNEL | window, Code.call(-64));
            Bench.changesOnly("CALL", x, x::step, Bench.PLACE, Bench.NEXT, Bench.STEPS, Bench.part(window, 15));
            Check.due("register 15 of " + window, x.register(window, 15), 256);
            Bench.places("CALL", x, 260, 0);
        }
    }

    private static void callGoesAround() {
        Check.sentence("to PLACE + 4 * (bits 0 .. 29)");
        int[] words = {0, 1, 0x1FFFFFFF, 0x20000000, 0x3FFFFFFF};
        int[] due = {4092, 4096, 0x80000FF8, 0x80000FFC, 4088};
        for (int i = 0; i < words.length; i++) {
            WindowCore x = new WindowCore();
            x.put(4092, Code.call(words[i]));
            Bench.at(x, 4092, 16);
            Check.due("CALL " + words[i], x.step(), 0);
            Bench.places("CALL " + words[i], x, 16, due[i]);
        }
    }

    private static void highBits() {
        Check.sentence("4 register D becomes (bits 0 .. 21) * 1024");
        int[] bits = {0, 1, 0x1FFFFF, 0x200000, 0x3FFFFF};
        int[] due = {0, 1024, 0x7FFFFC00, 0x80000000, 0xFFFFFC00};
        for (int i = 0; i < bits.length; i++) {
            WindowCore x = Bench.with(Code.high(10, bits[i]));
            x.set(0, 10, -1);
            Check.due("bits " + bits[i], x.step(), 0);
            Check.due("register 10", x.register(0, 10), due[i]);
        }
    }

    private static void branchWithSign() {
        Check.sentence("to PLACE + 4 * (bits 0 .. 21, with sign)");
        int[] bits = {0, 1, 0x1FFFFF, 0x200000, 0x3FFFFF};
        int[] due = {0, 4, 0x7FFFFC, -0x800000, -4};
        for (int i = 0; i < bits.length; i++) {
            WindowCore x = Bench.with(Code.branch(Code.ALWAYS, false, bits[i]));
            Check.due("bits " + bits[i], x.step(), 0);
            Bench.places("bits " + bits[i], x, 4, due[i]);
        }
    }

    private static void jumpStoresPlace() {
        Check.sentence("56 JUMP: D becomes PLACE; to A + B");
        for (int window : new int[] {0, 7}) {
            for (int d : new int[] {9, 16, 31}) {
                WindowCore x = Bench.filled(Bench.KERNEL | window, Code.op(Code.JUMP, d, 16, 31));
                x.set(window, 16, 4092);
                x.set(window, 31, -4);
                Bench.changesOnly("JUMP", x, x::step, Bench.PLACE, Bench.NEXT, Bench.STEPS, Bench.part(window, d));
                Check.due("D " + d + " of " + window, x.register(window, d), 256);
                Bench.places("A and B are read before D is written", x, 260, 4088);
            }
        }
    }

    private static void toIsOneLate() {
        Check.sentence("the next instruction is done first (it lies at NEXT), then the one at x");
        int[] jumps = {Code.call(200), Code.branch(Code.ALWAYS, false, 200), Code.opNumber(Code.JUMP, 0, 0, 800),
            Code.opNumber(Code.RETURN, 0, 0, 800)};
        for (int jump : jumps) {
            WindowCore x = Bench.with(jump);
            x.put(400, Code.opNumber(Code.ADD, 1, 1, 1));
            x.put(800, Code.op(Code.ADD, 1, 1, 1));
            Bench.at(x, 0, 400);
            Check.due("jump " + jump, x.step(), 0);
            Bench.places("jump " + jump, x, 400, 800);
            x.run(2);
            Check.due("1 more, then doubled", x.register(0, 1), 2);
            Bench.places("behind x", x, 804, 808);
        }
    }

    private static void toInTheSlot() {
        Check.sentence("PLACE becomes NEXT, NEXT becomes x");
        WindowCore x = Bench.with(Code.call(100), Code.call(200));
        x.put(400, Code.call(300));
        x.run(2);
        Bench.places("a CALL behind a CALL", x, 400, 804);
        x.run(1);
        Bench.places("a third at the first one's x", x, 804, 1600);
        Check.due("register 15", x.register(0, 15), 400);
    }

    private static void othersGoOn() {
        Check.sentence("All others: PLACE becomes NEXT, NEXT is 4 more");
        int[] others = {Code.NOTHING, Code.branch(0, false, 9), Code.opNumber(Code.ADD, 9, 0, 1),
            Code.opNumber(Code.TRAP, 0, 0, 1), Code.op(Code.SAVE, 0, 0, 0), Code.op(Code.RESTORE, 0, 0, 0),
            Code.op(Code.LEFT, 0, 0, 0), Code.op(Code.READ_STATUS, 0, 0, 0), Code.op(Code.WRITE_TABLE, 0, 0, 0),
            Code.move(Code.WORD, 9, 0, 0), Code.moveNumber(Code.STORE_TWO, 8, 0, 512)};
        for (int code : others) {
            for (int next : new int[] {0, 700, 4092, -8, -4}) {
                WindowCore x = Bench.with(code);
                x.control(Bench.NEXT, next);
                Check.due("word " + code, x.step(), 0);
                Bench.places("word " + code, x, next, next + 4);
            }
        }
    }
}
