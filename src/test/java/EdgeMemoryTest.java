/** Edges of the terms: memory, its addresses and the order of its bytes. */
public final class EdgeMemoryTest {
    public static void main(String[] args) {
        firstAndLastByte();
        noByteOutside();
        orderInWord();
        orderInHalf();
        sumsOf32Bits();
        addressesWithoutSign();
        Check.end();
    }

    private static void firstAndLastByte() {
        Check.sentence("MEMORY is 4096 BYTES, addresses 0 .. 4095");
        int[] addresses = {0, 4095};
        int[] words = {0, 4092};
        int[] due = {0xA5000000, 0x000000A5};
        for (int i = 0; i < 2; i++) {
            WindowCore x = Bench.moving(Code.STORE_BYTE, addresses[i], 0xA5);
            Check.due("a byte to " + addresses[i], x.step(), 0);
            Check.due("its word", x.word(words[i]), due[i]);
            WindowCore y = Bench.moving(Code.BYTE, addresses[i], 7);
            y.put(words[i], due[i]);
            Check.due("a byte from " + addresses[i], y.step(), 0);
            Check.due("it", y.register(0, 10), 0xA5);
        }
    }

    private static void noByteOutside() {
        Check.sentence("MEMORY is 4096 BYTES, addresses 0 .. 4095");
        for (int kind : new int[] {Code.BYTE, Code.BYTE_SIGN, Code.STORE_BYTE, Code.BYTE_255}) {
            for (int address : new int[] {-1, 4096}) {
                Check.due("kind " + kind + " at " + address, Bench.moving(kind, address, 1).step(), 109);
            }
        }
    }

    private static void orderInWord() {
        Check.sentence("in a HALF (two bytes) and a WORD (four) the byte with the lowest address is the highest");
        for (int word : new int[] {0, 4092}) {
            for (int i = 0; i < 4; i++) {
                WindowCore x = Bench.moving(Code.BYTE, word + i, 0);
                x.put(word, 0x11223344);
                x.step();
                Check.due("byte " + i + " of the word at " + word, x.register(0, 10), 0x11 * (i + 1));
            }
        }
    }

    private static void orderInHalf() {
        Check.sentence("in a HALF (two bytes) and a WORD (four) the byte with the lowest address is the highest");
        for (int half : new int[] {0, 2, 4092, 4094}) {
            WindowCore x = Bench.moving(Code.STORE_HALF, half, 0x1122);
            x.put(260, Code.moveNumber(Code.BYTE, 11, 8, 0));
            x.put(264, Code.moveNumber(Code.BYTE, 12, 8, 1));
            Check.due("a half to " + half, x.run(3), 0);
            Check.due("its byte with the lowest address", x.register(0, 11), 0x11);
            Check.due("its byte with the highest address", x.register(0, 12), 0x22);
        }
    }

    private static void sumsOf32Bits() {
        Check.sentence("All numbers are 32 bits");
        int[][] sums = {{-1, 1029}, {0x80000000, 0x80000404}, {0x7FFFFFFF, 0x80000405}};
        for (int[] sum : sums) {
            WindowCore x = Bench.trapping(Code.move(Code.WORD, 10, 8, 9));
            x.set(0, 8, sum[0]);
            x.set(0, 9, sum[1]);
            x.put(1028, 77);
            Check.due("a word at " + sum[0] + " + " + sum[1], x.step(), 0);
            Check.due("the word at 1028", x.register(0, 10), 77);
        }
        WindowCore y = Bench.with(Code.opNumber(Code.JUMP, 0, 8, 12));
        y.set(0, 8, -8);
        Check.due("a jump to -8 + 12", y.step(), 0);
        Bench.places("a jump around", y, 4, 4);
    }

    private static void addressesWithoutSign() {
        Check.sentence("addresses are read without sign");
        for (int address : new int[] {0x80000000, -4096, -8, 0x7FFFFFF8}) {
            Check.due("a word at " + address, Bench.moving(Code.WORD, address, 0).step(), 109);
            Check.due("a word to " + address, Bench.moving(Code.STORE_WORD, address, 0).step(), 109);
            WindowCore x = Bench.trapping();
            x.control(Bench.PLACE, address);
            Check.due("PLACE " + address, x.step(), 101);
        }
    }
}
