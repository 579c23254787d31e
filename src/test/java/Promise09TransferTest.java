/** Promise 9: what is moved from and to memory. */
public final class Promise09TransferTest {
    private static final int[] KINDS = {0, 1, 2, 3, 4, 5, 6, 7, 9, 10, 13, 15};
    private static final int FIRST = 0x81F27384;
    private static final int SECOND = 0x15A6B7C8;
    private static final int REGISTER = 0xE1D2C3B4;

    public static void main(String[] args) {
        loads();
        stores();
        exchanges();
        registerZero();
        addresses();
        wrongAddresses();
        oddRegister();
        orderOfTypes();
        ownAddressRegister();
        Check.end();
    }

    private static WindowCore move(int kind, int address) {
        WindowCore x = Bench.trapping(Code.op(Code.ADD, 0, 0, 0), Code.moveNumber(kind, 10, 8, address - 600));
        x.set(0, 8, 600);
        x.put(512, FIRST);
        x.put(516, SECOND);
        x.set(0, 10, REGISTER);
        x.set(0, 11, 0x0F1E2D3C);
        Check.due("nothing", x.step(), 0);
        Check.due("kind " + kind + " at " + address, x.step(), 0);
        Bench.places("kind " + kind, x, 8, 12);
        Check.due("STATUS", x.look(Bench.STATUS), Bench.KERNEL | Bench.TRAPS);
        return x;
    }

    private static void loaded(int kind, int address, int due) {
        WindowCore x = move(kind, address);
        Check.due("kind " + kind + " of " + address, x.register(0, 10), due);
        Check.due("the word stays", x.word(512), FIRST);
        Check.due("the next word stays", x.word(516), SECOND);
        Check.due("register 11", x.register(0, 11), kind == Code.TWO ? SECOND : 0x0F1E2D3C);
    }

    private static void loads() {
        loaded(Code.WORD, 512, FIRST);
        loaded(Code.WORD, 516, SECOND);
        loaded(Code.TWO, 512, FIRST);
        int[] bytes = {0x81, 0xF2, 0x73, 0x84, 0x15, 0xA6, 0xB7, 0xC8};
        for (int i = 0; i < 8; i++) {
            loaded(Code.BYTE, 512 + i, bytes[i]);
            loaded(Code.BYTE_SIGN, 512 + i, (byte) bytes[i]);
        }
        for (int i = 0; i < 8; i += 2) {
            int half = bytes[i] << 8 | bytes[i + 1];
            loaded(Code.HALF, 512 + i, half);
            loaded(Code.HALF_SIGN, 512 + i, (short) half);
        }
    }

    private static void stored(int kind, int address, int first, int second) {
        WindowCore x = move(kind, address);
        Check.due("kind " + kind + " to " + address, x.word(512), first);
        Check.due("kind " + kind + " to " + address + ", next", x.word(516), second);
        Check.due("register 10 stays", x.register(0, 10), REGISTER);
        Check.due("word before", x.word(508), 0);
        Check.due("word behind", x.word(520), 0);
    }

    private static void stores() {
        stored(Code.STORE_WORD, 512, REGISTER, SECOND);
        stored(Code.STORE_WORD, 516, FIRST, REGISTER);
        stored(Code.STORE_TWO, 512, REGISTER, 0x0F1E2D3C);
        stored(Code.STORE_BYTE, 512, 0xB4F27384, SECOND);
        stored(Code.STORE_BYTE, 513, 0x81B47384, SECOND);
        stored(Code.STORE_BYTE, 514, 0x81F2B484, SECOND);
        stored(Code.STORE_BYTE, 515, 0x81F273B4, SECOND);
        stored(Code.STORE_BYTE, 516, FIRST, 0xB4A6B7C8);
        stored(Code.STORE_HALF, 512, 0xC3B47384, SECOND);
        stored(Code.STORE_HALF, 514, 0x81F2C3B4, SECOND);
        stored(Code.STORE_HALF, 518, FIRST, 0x15A6C3B4);
    }

    private static void exchanges() {
        int[] left = {0xFFF27384, 0x81FF7384, 0x81F2FF84, 0x81F273FF};
        int[] bytes = {0x81, 0xF2, 0x73, 0x84};
        for (int i = 0; i < 4; i++) {
            WindowCore x = move(Code.BYTE_255, 512 + i);
            Check.due("byte " + i, x.register(0, 10), bytes[i]);
            Check.due("255 at " + i, x.word(512), left[i]);
        }
        WindowCore y = move(Code.EXCHANGE, 516);
        Check.due("exchanged register", y.register(0, 10), SECOND);
        Check.due("exchanged word", y.word(516), REGISTER);
        Check.due("the word before", y.word(512), FIRST);
    }

    private static void registerZero() {
        int[] due = {FIRST, FIRST, FIRST, FIRST, 0, 0x00F27384, 0x00007384, 0, FIRST, FIRST, 0xFFF27384, 0};
        for (int i = 0; i < KINDS.length; i++) {
            WindowCore x = Bench.with(Code.moveNumber(KINDS[i], 0, 0, 512));
            x.put(512, FIRST);
            x.put(516, SECOND);
            x.set(0, 1, 99);
            x.step();
            Check.due("register 0 after kind " + KINDS[i], x.register(0, 0), 0);
            Check.due("register 1 after kind " + KINDS[i], x.register(0, 1), KINDS[i] == Code.TWO ? SECOND : 99);
            Check.due("memory after kind " + KINDS[i], x.word(512), due[i]);
            Check.due("memory behind kind " + KINDS[i], x.word(516), KINDS[i] == Code.STORE_TWO ? 99 : SECOND);
        }
        WindowCore y = Bench.with(Code.moveNumber(Code.TWO, 30, 0, 512));
        y.put(516, SECOND);
        y.step();
        Check.due("register 31", y.register(0, 31), SECOND);
        Check.due("register 31 is 15 of the next window", y.register(1, 15), SECOND);
    }

    private static int sizeOf(int kind) {
        int[] sizes = {4, 1, 2, 8, 4, 1, 2, 8, 0, 1, 2, 0, 0, 1, 0, 4};
        return sizes[kind];
    }

    private static int answerAt(int kind, int address) {
        WindowCore x = Bench.trapping(Code.move(kind, 10, 8, 9));
        x.set(0, 8, address - 77);
        x.set(0, 9, 77);
        x.set(0, 10, 0xFFFFFFFF);
        int answer = x.step();
        if (answer != 0) {
            Check.due("D of kind " + kind + " at " + address, x.register(0, 10), -1);
            Check.due("memory of kind " + kind + " at " + address, x.word(4092), 0);
        }
        return answer;
    }

    private static void addresses() {
        for (int kind : KINDS) {
            for (int offset = 0; offset < 8; offset++) {
                int due = offset % sizeOf(kind) == 0 ? 0 : 107;
                Check.due("kind " + kind + " at 512 + " + offset, answerAt(kind, 512 + offset), due);
                Check.due("kind " + kind + " at 4088 + " + offset, answerAt(kind, 4088 + offset), due);
            }
        }
    }

    private static void wrongAddresses() {
        for (int kind : KINDS) {
            for (int address : new int[] {4096, 4104, 0x7FFFFFF8, 0x80000000, -8, -4096, 65536}) {
                Check.due("kind " + kind + " at " + address, answerAt(kind, address), 109);
            }
            int due = sizeOf(kind) == 1 ? 109 : 107;
            Check.due("kind " + kind + " at 4097", answerAt(kind, 4097), due);
            Check.due("kind " + kind + " at -1", answerAt(kind, -1), due);
        }
    }

    private static void oddRegister() {
        for (int kind : KINDS) {
            boolean isTwo = sizeOf(kind) == 8;
            for (int d = 1; d < 32; d += 2) {
                WindowCore x = Bench.trapping(Code.moveNumber(kind, d, 0, 512));
                Check.due("kind " + kind + " of register " + d, x.step(), isTwo ? 102 : 0);
            }
        }
    }

    private static void orderOfTypes() {
        WindowCore x = Bench.trapping(Code.moveNumber(Code.TWO, 9, 0, 1));
        Check.due("odd register before wrong address", x.step(), 102);
        WindowCore y = Bench.trapping(Code.moveNumber(Code.TWO, 8, 0, -4));
        Check.due("no multiple before no memory", y.step(), 107);
        WindowCore z = Bench.trapping(Code.moveNumber(Code.TWO, 8, 0, 4092));
        Check.due("4092 is no multiple of 8", z.step(), 107);
    }

    private static void ownAddressRegister() {
        WindowCore x = Bench.with(Code.move(Code.TWO, 8, 8, 9), Code.move(Code.EXCHANGE, 10, 10, 0));
        x.set(0, 8, 500);
        x.set(0, 9, 12);
        x.put(512, FIRST);
        x.put(516, SECOND);
        x.step();
        Check.due("register 8", x.register(0, 8), FIRST);
        Check.due("register 9", x.register(0, 9), SECOND);
        x.set(0, 10, 516);
        x.step();
        Check.due("register 10", x.register(0, 10), SECOND);
        Check.due("its address is there", x.word(516), 516);
    }
}
