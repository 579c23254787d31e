/** Promise 3: put. */
public final class Promise03PutTest {
    public static void main(String[] args) {
        ordinary();
        highestByteFirst();
        wrong();
        Check.end();
    }

    private static void ordinary() {
        WindowCore x = new WindowCore();
        for (int address : new int[] {0, 4, 2048, 4088, 4092}) {
            Check.due("put first at " + address, x.put(address, ~address), 0);
            Check.due("put again at " + address, x.put(address, address + 7), ~address);
            Check.due("word at " + address, x.word(address), address + 7);
        }
        Check.due("word between", x.word(8), 0);
        Check.due("put keeps the lowest", x.put(0, Integer.MIN_VALUE), 7);
        Check.due("put keeps the highest", x.put(0, Integer.MAX_VALUE), Integer.MIN_VALUE);
    }

    private static void highestByteFirst() {
        WindowCore x = Bench.with(Code.moveNumber(Code.BYTE, 9, 0, 100), Code.moveNumber(Code.BYTE, 10, 0, 103));
        x.put(100, 0x12345678);
        x.run(2);
        Check.due("byte with the lowest address", x.register(0, 9), 0x12);
        Check.due("byte with the highest address", x.register(0, 10), 0x78);
    }

    private static void wrong() {
        WindowCore x = Bench.stirred();
        Bench.changesNothing("put of wrong addresses", x, () -> {
            for (int address : new int[] {1, 2, 3, 4093, 4095, 4096, 4100, -4, -1, 65536,
                    Integer.MAX_VALUE, Integer.MAX_VALUE - 3, Integer.MIN_VALUE}) {
                Check.noSuchElement("put(" + address + ", 9)", () -> x.put(address, 9));
            }
        });
    }
}
