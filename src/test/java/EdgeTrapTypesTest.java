/** Edges of the terms: each type of trap, and which of them comes first. */
public final class EdgeTrapTypesTest {
    private static final int[] MOVES = {0, 1, 2, 3, 4, 5, 6, 7, 9, 10, 13, 15};
    private static final int[] SIZES = {4, 1, 2, 8, 4, 1, 2, 8, 1, 2, 1, 4};

    public static void main(String[] args) {
        placeNotInMemory();
        noneOfTheAbove();
        oddRegister();
        windowAboveSeven();
        returnInKernelWithTraps();
        kernelIsNeeded();
        kernelIsNotNeededElsewhere();
        invalidWindow();
        noMultiple();
        noMultipleForJumps();
        notInMemory();
        byTrap();
        firstOfTheTypes();
        nothingOfItIsDone();
        Check.end();
    }

    private static int answer(int status, int code) {
        WindowCore x = Bench.with(code);
        x.control(Bench.STATUS, status);
        return x.step();
    }

    private static void placeNotInMemory() {
        Check.sentence("1 PLACE is not in memory (whole)");
        int[] places = {0, 4092, 4096, 4100, 0x7FFFFFFC, 0x80000000, -4};
        for (int place : places) {
            WindowCore x = Bench.trapping(Code.NOTHING);
            x.put(4092, Code.NOTHING);
            x.control(Bench.PLACE, place);
            Check.due("PLACE " + place, x.step(), place == 0 || place == 4092 ? 0 : 101);
        }
    }

    private static void noneOfTheAbove() {
        Check.sentence("2 it is none of the above");
        for (int kind : new int[] {0, 1, 3, 5, 6, 7}) {
            none(1 << 25 | kind << 22);
        }
        int[] operations = {9, 10, 11, 13, 14, 15, 25, 26, 27, 29, 30, 31, 32, 33, 34, 35, 36, 40, 44, 45, 46, 47, 48,
            52, 53, 54, 55, 59, 62, 63};
        for (int kind : operations) {
            none(Code.opNumber(kind, 8, 0, 4));
        }
        for (int kind = 8; kind < 64; kind++) {
            if (kind != 9 && kind != 10 && kind != 13 && kind != 15) {
                none(Code.moveNumber(kind, 8, 0, 512));
            }
        }
    }

    private static void none(int code) {
        Check.due("word " + code, answer(Bench.TRAPS | Bench.KERNEL, code), 102);
        Check.due("word " + code + " with KERNEL 0", answer(Bench.TRAPS, code), 102);
    }

    private static void oddRegister() {
        Check.sentence("D is odd at 3, 7 of memory");
        for (int d = 0; d < 32; d++) {
            for (int kind : MOVES) {
                int due = d % 2 == 1 && (kind == 3 || kind == 7) ? 102 : 0;
                int got = answer(Bench.TRAPS, Code.moveNumber(kind, d, 0, 512));
                Check.due("kind " + kind + " of memory, D " + d, got, due);
            }
        }
    }

    private static void windowAboveSeven() {
        Check.sentence("STATUS would have a window above 7");
        for (int window : new int[] {0, 7, 8, 15, 16, 24, 31}) {
            WindowCore x = Bench.trapping(Code.opNumber(Code.WRITE_STATUS, 0, 0, window));
            Check.due("window " + window, x.step(), window > 7 ? 102 : 0);
            Check.due("STATUS then", x.look(Bench.STATUS), window > 7 ? Bench.KERNEL | Bench.BEFORE | 7 : window);
        }
        WindowCore y = Bench.trapping(Code.opNumber(Code.WRITE_STATUS, 0, 8, 15));
        y.set(0, 8, 8);
        Check.due("8 xor 15 is 7", y.step(), 0);
        WindowCore z = Bench.trapping(Code.opNumber(Code.WRITE_INVALID, 0, 0, 31));
        Check.due("INVALID has no window", z.step(), 0);
    }

    private static void returnInKernelWithTraps() {
        Check.sentence("RETURN FROM TRAP with TRAPS 1 and KERNEL 1");
        Check.due("in kernel", answer(Bench.TRAPS | Bench.KERNEL, Code.opNumber(Code.RETURN, 0, 0, 8)), 102);
        Check.due("BEFORE is 1, too", answer(Bench.TRAPS | Bench.KERNEL | Bench.BEFORE,
            Code.opNumber(Code.RETURN, 0, 0, 8)), 102);
    }

    private static void kernelIsNeeded() {
        Check.sentence("3 KERNEL is 0 at 41 .. 43, 49 .. 51, or at RETURN FROM TRAP with TRAPS 1");
        for (int kind : new int[] {41, 42, 43, 49, 50, 51}) {
            int code = Code.opNumber(kind, 9, 0, 0);
            Check.due("kind " + kind, answer(Bench.TRAPS | Bench.BEFORE, code), 103);
            Check.due("kind " + kind + " in kernel", answer(Bench.TRAPS | Bench.KERNEL, code), 0);
        }
        Check.due("RETURN", answer(Bench.TRAPS | Bench.BEFORE, Code.opNumber(Code.RETURN, 0, 0, 8)), 103);
    }

    private static void kernelIsNotNeededElsewhere() {
        Check.sentence("3 KERNEL is 0 at 41 .. 43, 49 .. 51");
        int[] codes = {Code.call(0), Code.NOTHING, Code.branch(8, false, 0), Code.op(Code.ADD, 9, 0, 0),
            Code.op(Code.RIGHT_SIGN, 9, 0, 0), Code.op(Code.JUMP, 9, 0, 0), Code.op(Code.TRAP, 0, 0, 0),
            Code.op(Code.SAVE, 9, 0, 0), Code.op(Code.RESTORE, 9, 0, 0), Code.moveNumber(Code.EXCHANGE, 9, 0, 512)};
        for (int code : codes) {
            Check.due("word " + code, answer(Bench.TRAPS, code), 0);
        }
    }

    private static void invalidWindow() {
        Check.sentence("5, 6 SAVE, RESTORE to a window that is INVALID");
        for (int from = 0; from < 8; from++) {
            turn(Code.SAVE, from, (from + 7) % 8, 105);
            turn(Code.RESTORE, from, (from + 1) % 8, 106);
        }
    }

    private static void turn(int kind, int from, int to, int due) {
        for (int invalid : new int[] {0, 1 << to, 0xFF ^ 1 << to, 0xFF}) {
            WindowCore x = Bench.with(Code.op(kind, 0, 0, 0));
            x.control(Bench.STATUS, Bench.TRAPS | from);
            x.control(Bench.INVALID, invalid);
            Check.due("kind " + kind + " from " + from + ", INVALID " + invalid, x.step(),
                (invalid >> to & 1) == 1 ? due : 0);
        }
    }

    private static void noMultiple() {
        Check.sentence("7 the address, or that of a jump, is no multiple of what is moved there");
        for (int i = 0; i < MOVES.length; i++) {
            for (int address = 1024; address <= 1032; address++) {
                Check.due("kind " + MOVES[i] + " of memory at " + address,
                    Bench.moving(MOVES[i], address, 0).step(), address % SIZES[i] == 0 ? 0 : 107);
            }
        }
    }

    private static void noMultipleForJumps() {
        Check.sentence("(4 for jumps)");
        for (int address : new int[] {1024, 1025, 1026, 1027, 1028, 4096, -4, -1}) {
            WindowCore x = Bench.trapping(Code.op(Code.JUMP, 9, 8, 0));
            x.set(0, 8, address);
            Check.due("a jump to " + address, x.step(), address % 4 == 0 ? 0 : 107);
        }
    }

    private static void notInMemory() {
        Check.sentence("9 the address is not in memory (whole)");
        for (int i = 0; i < MOVES.length; i++) {
            int last = 4096 - SIZES[i];
            String what = "kind " + MOVES[i] + " of memory at ";
            Check.due(what + "0", Bench.moving(MOVES[i], 0, 0).step(), 0);
            Check.due(what + last, Bench.moving(MOVES[i], last, 0).step(), 0);
            for (int address : new int[] {4096, -SIZES[i], 0x7FFFFFF8, 0x80000000}) {
                Check.due(what + address, Bench.moving(MOVES[i], address, 0).step(), 109);
            }
        }
        // A jump may go there: the trap comes when PLACE is there.
        Check.due("a jump to 4092 + 4", answer(Bench.TRAPS, Code.opNumber(Code.JUMP, 0, 0, -4)), 0);
    }

    private static void byTrap() {
        Check.sentence("128 .. 255 TRAP");
        int[] sums = {0, 127, 128, 255, -1, -128, 0x7FFFFFFF, 0x80000000};
        int[] due = {128, 255, 128, 255, 255, 128, 255, 128};
        for (int i = 0; i < sums.length; i++) {
            WindowCore x = Bench.trapping(Code.opNumber(Code.TRAP, Code.ALWAYS, 8, 1));
            x.set(0, 8, sums[i] - 1);
            Check.due("TRAP of " + sums[i], x.step(), 100 + due[i]);
            Check.due("its type", x.look(Bench.TABLE), due[i] << 4);
        }
    }

    private static void firstOfTheTypes() {
        Check.sentence("a trap of the first of these types");
        int user = Bench.TRAPS;
        int kernel = Bench.TRAPS | Bench.KERNEL;
        Check.due("2 before 3", answer(user, Code.opNumber(Code.WRITE_STATUS, 0, 0, 8)), 102);
        for (int kind : new int[] {Code.TWO, Code.STORE_TWO}) {
            Check.due("2 before 7", answer(user, Code.moveNumber(kind, 9, 0, 513)), 102);
            Check.due("2 before 9", answer(user, Code.moveNumber(kind, 9, 0, -8)), 102);
        }
        Check.due("2 before 7, RETURN", answer(kernel, Code.opNumber(Code.RETURN, 0, 0, 9)), 102);
        Check.due("3 before 7, RETURN", answer(user, Code.opNumber(Code.RETURN, 0, 0, 9)), 103);
        for (int i = 0; i < MOVES.length; i++) {
            if (SIZES[i] > 1) {
                Check.due("7 before 9, kind " + MOVES[i], Bench.moving(MOVES[i], -1, 0).step(), 107);
                int behind = 4096 + SIZES[i] / 2;
                Check.due("7 before 9, kind " + MOVES[i], Bench.moving(MOVES[i], behind, 0).step(), 107);
            }
        }
        Check.due("7 before 9, two words at 4092", Bench.moving(Code.TWO, 4092, 0).step(), 107);
        WindowCore x = Bench.with(Code.opNumber(Code.RETURN, 0, 0, 8));
        x.control(Bench.STATUS, kernel);
        x.control(Bench.INVALID, 0xFF);
        Check.due("2 with an invalid window, RETURN", x.step(), 102);
    }

    private static void nothingOfItIsDone() {
        Check.sentence("and nothing of it is done");
        nothingOf(102, Bench.TRAPS | 4, Code.moveNumber(Code.TWO, 9, 0, 512));
        nothingOf(102, Bench.TRAPS | 4, Code.moveNumber(Code.STORE_TWO, 9, 0, 512));
        nothingOf(102, Bench.TRAPS | Bench.KERNEL | 4, Code.opNumber(Code.WRITE_STATUS, 9, 0, 8));
        nothingOf(103, Bench.TRAPS | 4, Code.op(Code.READ_TABLE, 9, 0, 0));
        nothingOf(103, Bench.TRAPS | 4, Code.op(Code.WRITE_INVALID, 9, 8, 0));
        nothingOf(103, Bench.TRAPS | 4, Code.opNumber(Code.RETURN, 9, 0, 8));
        nothingOf(105, Bench.TRAPS | 4, Code.op(Code.SAVE, 9, 8, 8));
        nothingOf(106, Bench.TRAPS | 4, Code.op(Code.RESTORE, 9, 8, 8));
        nothingOf(107, Bench.TRAPS | 4, Code.opNumber(Code.JUMP, 9, 0, 9));
        nothingOf(107, Bench.TRAPS | 4, Code.moveNumber(Code.EXCHANGE, 9, 0, 514));
        nothingOf(107, Bench.TRAPS | 4, Code.moveNumber(Code.STORE_HALF, 9, 0, 513));
        nothingOf(109, Bench.TRAPS | 4, Code.moveNumber(Code.STORE_WORD, 9, 0, -4));
        nothingOf(109, Bench.TRAPS | 4, Code.moveNumber(Code.BYTE_255, 9, 0, -1));
        nothingOf(228, Bench.TRAPS | 4, Code.op(Code.TRAP, Code.ALWAYS, 0, 0));
    }

    private static void nothingOf(int due, int status, int code) {
        WindowCore x = Bench.filled(status | Bench.C | Bench.Z | 9 << 8, code);
        x.control(Bench.INVALID, 0x28);
        Bench.changesOnly("trap " + due, x, () -> Check.due("word " + code, x.step(), due), Bench.STATUS, Bench.TABLE,
            Bench.PLACE, Bench.NEXT, Bench.STEPS, Bench.TRAP_COUNT, Bench.part(3, 17), Bench.part(3, 18));
        int before = (status & Bench.KERNEL) >> 1;
        Check.due("STATUS of trap " + due, x.look(Bench.STATUS),
            Bench.C | Bench.Z | 9 << 8 | Bench.KERNEL | before | 3);
    }
}
