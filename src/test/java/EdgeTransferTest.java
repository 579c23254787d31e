/** Edges of the terms: what is moved from and to memory. */
public final class EdgeTransferTest {
    private static final int OLD = 0x55AA55AA;

    public static void main(String[] args) {
        loadsWithoutSign();
        loadsWithSign();
        loadsOfWords();
        storesOfLowestBits();
        twoWordsAtTheLastRegisters();
        twoWordsAtTheEndsOfMemory();
        byteAnd255();
        exchange();
        addressIsReadFirst();
        flagsStay();
        Check.end();
    }

    private static void loaded(int kind, int word, int offset, int due) {
        for (int address : new int[] {0, 4092}) {
            WindowCore x = Bench.moving(kind, address + offset, OLD);
            x.put(address, word);
            String what = "kind " + kind + " of " + word + " at " + (address + offset);
            Check.due(what, x.step(), 0);
            Check.due(what + ": register", x.register(0, 10), due);
            Check.due(what + ": memory stays", x.word(address), word);
        }
    }

    private static void loadsWithoutSign() {
        Check.sentence("1 a byte, 2 a half");
        loaded(Code.BYTE, 0x7F808080, 0, 0x7F);
        loaded(Code.BYTE, 0x807F7F7F, 0, 0x80);
        loaded(Code.BYTE, 0x000000FF, 3, 0xFF);
        loaded(Code.BYTE, 0xFFFFFF00, 3, 0);
        loaded(Code.HALF, 0x7FFF8000, 0, 0x7FFF);
        loaded(Code.HALF, 0x7FFF8000, 2, 0x8000);
        loaded(Code.HALF, 0xFFFF0000, 0, 0xFFFF);
        loaded(Code.HALF, 0xFFFF0000, 2, 0);
    }

    private static void loadsWithSign() {
        Check.sentence("9 a byte with sign, 10 a half with sign");
        loaded(Code.BYTE_SIGN, 0x7F808080, 0, 0x7F);
        loaded(Code.BYTE_SIGN, 0x807F7F7F, 0, -128);
        loaded(Code.BYTE_SIGN, 0x000000FF, 3, -1);
        loaded(Code.BYTE_SIGN, 0xFFFFFF00, 3, 0);
        loaded(Code.HALF_SIGN, 0x7FFF8000, 0, 0x7FFF);
        loaded(Code.HALF_SIGN, 0x7FFF8000, 2, -32768);
        loaded(Code.HALF_SIGN, 0xFFFF0000, 0, -1);
        loaded(Code.HALF_SIGN, 0x0000FF80, 2, -128);
    }

    private static void loadsOfWords() {
        Check.sentence("0 a word");
        for (int word : new int[] {0, 1, -1, 0x7FFFFFFF, 0x80000000}) {
            loaded(Code.WORD, word, 0, word);
        }
    }

    private static void stored(int kind, int offset, int due) {
        for (int address : new int[] {512, 4092}) {
            WindowCore x = Bench.moving(kind, address + offset, 0x12345678);
            x.put(address, OLD);
            String what = "kind " + kind + " to " + (address + offset);
            Check.due(what, x.step(), 0);
            Check.due(what + ": word", x.word(address), due);
            Check.due(what + ": the word before", x.word(address - 4), 0);
            Check.due(what + ": register stays", x.register(0, 10), 0x12345678);
        }
    }

    private static void storesOfLowestBits() {
        Check.sentence("4, 5, 6, 7 a word, byte, half (the lowest bits of D)");
        stored(Code.STORE_WORD, 0, 0x12345678);
        stored(Code.STORE_BYTE, 0, 0x78AA55AA);
        stored(Code.STORE_BYTE, 1, 0x557855AA);
        stored(Code.STORE_BYTE, 2, 0x55AA78AA);
        stored(Code.STORE_BYTE, 3, 0x55AA5578);
        stored(Code.STORE_HALF, 0, 0x567855AA);
        stored(Code.STORE_HALF, 2, 0x55AA5678);
    }

    private static void twoWordsAtTheLastRegisters() {
        Check.sentence("3 two words, to D and D + 1");
        for (int d = 0; d < 32; d += 2) {
            WindowCore x = Bench.filled(Bench.KERNEL | 7, Code.moveNumber(Code.TWO, d, 0, 512));
            x.put(512, -5);
            x.put(516, -6);
            Bench.changesOnly("two words to " + d, x, x::step, Bench.PLACE, Bench.NEXT, Bench.STEPS,
                Bench.part(7, d), Bench.part(7, d + 1));
            Check.due("register " + d, x.register(7, d), d == 0 ? 0 : -5);
            Check.due("register " + (d + 1), x.register(7, d + 1), -6);
        }
    }

    private static void twoWordsAtTheEndsOfMemory() {
        Check.sentence("two words from there");
        for (int address : new int[] {0, 4088}) {
            for (int d : new int[] {0, 10, 30}) {
                WindowCore x = Bench.trapping();
                x.put(256, Code.move(Code.STORE_TWO, d, 8, 0));
                x.set(0, 8, address);
                x.set(0, d, 77);
                x.set(0, d + 1, 78);
                Bench.at(x, 256, 260);
                Check.due("two words from " + d + " to " + address, x.step(), 0);
                Check.due("the first", x.word(address), d == 0 ? 0 : 77);
                Check.due("the second", x.word(address + 4), 78);
            }
        }
    }

    private static void byteAnd255() {
        Check.sentence("13 a byte to D, and 255 to it");
        int[] left = {0xFFAA55AA, 0x55FF55AA, 0x55AAFFAA, 0x55AA55FF};
        for (int address : new int[] {0, 4092}) {
            for (int i = 0; i < 4; i++) {
                WindowCore x = Bench.moving(Code.BYTE_255, address + i, -1);
                x.put(address, OLD);
                Check.due("byte " + (address + i), x.step(), 0);
                Check.due("it, without sign", x.register(0, 10), i % 2 == 0 ? 0x55 : 0xAA);
                Check.due("255 is there", x.word(address), left[i]);
            }
        }
    }

    private static void exchange() {
        Check.sentence("15 a word is exchanged with D");
        for (int address : new int[] {0, 4092}) {
            WindowCore x = Bench.moving(Code.EXCHANGE, address, 0x80000001);
            x.put(address, OLD);
            Check.due("exchange at " + address, x.step(), 0);
            Check.due("register", x.register(0, 10), OLD);
            Check.due("memory", x.word(address), 0x80000001);
        }
    }

    private static void addressIsReadFirst() {
        Check.sentence("3, at the address A + B");
        WindowCore x = Bench.with(Code.move(Code.EXCHANGE, 8, 8, 0), Code.move(Code.TWO, 10, 10, 11));
        x.set(0, 8, 4092);
        x.put(4092, OLD);
        x.step();
        Check.due("D that was A", x.register(0, 8), OLD);
        Check.due("the address that was there", x.word(4092), 4092);
        x.set(0, 10, 4096);
        x.set(0, 11, -8);
        x.put(4088, 5);
        x.step();
        Check.due("D that was A, of two words", x.register(0, 10), 5);
        Check.due("D + 1 that was B, of two words", x.register(0, 11), 4092);
    }

    private static void flagsStay() {
        Check.sentence("3, at the address A + B, by bits 19 .. 24");
        for (int kind : new int[] {0, 1, 2, 3, 4, 5, 6, 7, 9, 10, 13, 15}) {
            for (int flags : new int[] {0, Bench.C | Bench.V | Bench.Z | Bench.N}) {
                WindowCore x = Bench.moving(kind, 512, 0);
                x.control(Bench.STATUS, flags);
                Check.due("kind " + kind, x.step(), 0);
                Check.due("kind " + kind + " of memory leaves the flags", x.look(Bench.STATUS), flags);
            }
        }
    }
}
