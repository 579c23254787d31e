/** Edges of the terms: STATUS, INVALID, TABLE, PLACE, NEXT, and the start. */
public final class EdgeControlWordsTest {
    public static void main(String[] args) {
        statusHasNoMore();
        statusWrittenByInstruction();
        invalidHasEightBits();
        invalidHasABitForEachWindow();
        tableHasBaseAndType();
        tableKeepsTheLatestType();
        tableWrittenByInstruction();
        placeAndNext();
        start();
        Check.end();
    }

    private static void statusHasNoMore() {
        Check.sentence("bits 20 .. 23 CARRY, OVERFLOW, ZERO, NEGATIVE; all else is 0");
        WindowCore x = Bench.with(Code.op(Code.READ_STATUS, 10, 0, 0));
        x.control(Bench.STATUS, 0x00F00FFF ^ 0x18 ^ Bench.TRAPS);
        x.step();
        Check.due("all that it has, as read", x.register(7, 10), 0x00F00FC7);
        for (int bit : new int[] {3, 4, 12, 13, 18, 19, 24, 25, 31}) {
            x.control(Bench.STATUS, 1 << bit);
            Check.due("bit " + bit, x.look(Bench.STATUS), 0);
        }
        for (int bit : new int[] {0, 2, 5, 6, 7, 8, 11, 20, 21, 22, 23}) {
            x.control(Bench.STATUS, 1 << bit);
            Check.due("bit " + bit, x.look(Bench.STATUS), 1 << bit);
        }
    }

    private static void statusWrittenByInstruction() {
        Check.sentence("all else is 0");
        for (int bit = 5; bit < 32; bit++) {
            WindowCore x = Bench.with(Code.op(Code.WRITE_STATUS, 0, 8, 0));
            x.set(0, 8, 1 << bit);
            Check.due("bit " + bit, x.step(), 0);
            boolean isThere = bit <= 11 || bit >= 20 && bit <= 23;
            Check.due("bit " + bit + " written", x.look(Bench.STATUS), isThere ? 1 << bit : 0);
        }
    }

    private static void invalidHasEightBits() {
        Check.sentence("INVALID is a word of 8 bits");
        WindowCore x = Bench.with(Code.opNumber(Code.WRITE_INVALID, 0, 0, -1), Code.op(Code.READ_INVALID, 10, 0, 0));
        x.step();
        Check.due("all written", x.look(Bench.INVALID), 0xFF);
        x.step();
        Check.due("all read", x.register(0, 10), 0xFF);
        x.control(Bench.INVALID, 0x7FFFFF00);
        Check.due("none of the 8", x.look(Bench.INVALID), 0);
    }

    private static void invalidHasABitForEachWindow() {
        Check.sentence("one for each window");
        for (int to = 0; to < 8; to++) {
            for (int bit = 0; bit < 8; bit++) {
                WindowCore x = Bench.with(Code.op(Code.SAVE, 0, 0, 0));
                x.control(Bench.STATUS, Bench.TRAPS | (to + 1) % 8);
                x.control(Bench.INVALID, 1 << bit);
                Check.due("to " + to + ", bit " + bit, x.step(), bit == to ? 105 : 0);
            }
        }
    }

    private static void tableHasBaseAndType() {
        Check.sentence("TABLE: bits 12 .. 31 its base, bits 4 .. 11 the type of the latest trap, all else 0");
        for (int base : new int[] {0, 0x1000, 0x7FFFF000, 0x80000000, 0xFFFFF000}) {
            for (int type : new int[] {128, 255}) {
                WindowCore x = Bench.trapping(Code.opNumber(Code.TRAP, Code.ALWAYS, 0, type));
                x.control(Bench.TABLE, base | 0x555);
                Check.due("trap", x.step(), 100 + type);
                Check.due("TABLE", x.look(Bench.TABLE), base | type << 4);
            }
        }
    }

    private static void tableKeepsTheLatestType() {
        Check.sentence("the type of the latest trap");
        WindowCore x = Bench.trapping(Code.opNumber(Code.TRAP, Code.ALWAYS, 0, 127));
        x.step();
        x.control(Bench.STATUS, Bench.TRAPS);
        x.control(Bench.PLACE, 4096);
        Check.due("type 1 behind type 255", x.step(), 101);
        Check.due("only 1 is left", x.look(Bench.TABLE), 0x10);
    }

    private static void tableWrittenByInstruction() {
        Check.sentence("TABLE's base (bits 12 .. 31) become those of A xor B");
        int[] written = {-1, 0, 0xFFF, 0x1000, 0x80000FFF};
        for (int v : written) {
            WindowCore x = Bench.with(Code.op(Code.WRITE_TABLE, 0, 8, 0));
            x.control(Bench.TABLE, 0x55555A50);
            x.set(0, 8, v);
            Check.due("TABLE by " + v, x.step(), 0);
            Check.due("its base", x.look(Bench.TABLE) & 0xFFFFF000, v & 0xFFFFF000);
            Check.due("its type stays", x.look(Bench.TABLE) & 0xFFF, 0xA50);
        }
    }

    private static void placeAndNext() {
        Check.sentence("PLACE is where the instruction is that comes next, NEXT the one behind it");
        WindowCore x = new WindowCore();
        x.put(4092, Code.opNumber(Code.ADD, 9, 9, 1));
        x.put(0, Code.opNumber(Code.ADD, 9, 9, 16));
        Bench.at(x, 4092, 0);
        x.step();
        Check.due("what lies at PLACE", x.register(0, 9), 1);
        x.step();
        Check.due("what lay at NEXT", x.register(0, 9), 17);
    }

    private static void start() {
        Check.sentence("At first all is 0, but NEXT is 4, and KERNEL is 1.");
        int[] seen = Bench.seen(new WindowCore());
        for (int i = 0; i < seen.length; i++) {
            int due = i == Bench.STATUS ? 128 : i == Bench.NEXT ? 4 : 0;
            Check.due("part " + i, seen[i], due);
        }
        WindowCore x = new WindowCore();
        Check.due("the word 0 with TRAPS 0", x.step(), 2);
        Check.due("it stops", x.look(Bench.STOPPED), 1);
    }
}
