/** Promise 4: word. */
public final class Promise04WordTest {
    public static void main(String[] args) {
        ordinary();
        wrong();
        Check.end();
    }

    private static void ordinary() {
        WindowCore x = new WindowCore();
        for (int address = 0; address < 4096; address += 32) {
            x.put(address, address - 5);
        }
        for (int address = 0; address < 4096; address += 32) {
            Check.due("word(" + address + ")", x.word(address), address - 5);
        }
        x.put(4092, 77);
        Check.due("the last word", x.word(4092), 77);
        WindowCore y = Bench.with(Code.moveNumber(Code.STORE_BYTE, 9, 0, 42));
        y.set(0, 9, 0xAB);
        y.step();
        Check.due("a word of bytes", y.word(40), 0x0000AB00);
    }

    private static void wrong() {
        WindowCore x = Bench.stirred();
        Bench.changesNothing("word of wrong addresses", x, () -> {
            for (int address : new int[] {1, 2, 3, 4093, 4094, 4096, 8192, -4, -1,
                    Integer.MAX_VALUE, Integer.MIN_VALUE}) {
                Check.noSuchElement("word(" + address + ")", () -> x.word(address));
            }
        });
    }
}
