/** Edges of the terms: RETURN FROM TRAP, with TRAPS 0 and with TRAPS 1. */
public final class EdgeReturnTest {
    public static void main(String[] args) {
        goesBack();
        kernelBecomesBefore();
        addressesOfAllKinds();
        stopsWithoutKernel();
        stopsAtInvalidWindow();
        stopsAtNoMultiple();
        stopsIsNoTrap();
        withTrapsIsATrap();
        wakesAgain();
        Check.end();
    }

    private static void goesBack() {
        Check.sentence("57 RETURN FROM TRAP: to A + B, the window is the next one, TRAPS is 1, KERNEL becomes BEFORE");
        for (int window = 0; window < 8; window++) {
            int next = (window + 1) % 8;
            WindowCore x = Bench.filled(Bench.KERNEL | Bench.N | 6 << 8 | window, Code.op(Code.RETURN, 9, 16, 17));
            x.set(window, 16, -4);
            x.set(window, 17, 804);
            x.control(Bench.INVALID, 0xFF ^ 1 << next);
            Bench.changesOnly("from " + window, x, () -> Check.due("return", x.step(), 0), Bench.STATUS, Bench.PLACE,
                Bench.NEXT, Bench.STEPS);
            Check.due("STATUS", x.look(Bench.STATUS), Bench.TRAPS | Bench.N | 6 << 8 | next);
            Bench.places("A + B are of the old window", x, 260, 800);
        }
    }

    private static void kernelBecomesBefore() {
        Check.sentence("KERNEL becomes BEFORE");
        for (int before : new int[] {0, Bench.BEFORE}) {
            WindowCore x = Bench.with(Code.opNumber(Code.RETURN, 0, 0, 8));
            x.control(Bench.STATUS, Bench.KERNEL | before);
            x.step();
            Check.due("STATUS", x.look(Bench.STATUS), Bench.TRAPS | before | before << 1 | 1);
        }
    }

    private static void addressesOfAllKinds() {
        Check.sentence("RETURN FROM TRAP: to A + B");
        for (int address : new int[] {0, 4092, 4096, 0x7FFFFFFC, 0x80000000, -4}) {
            WindowCore x = Bench.with(Code.op(Code.RETURN, 0, 8, 0), Code.NOTHING);
            x.set(0, 8, address);
            Check.due("return to " + address, x.step(), 0);
            Bench.places("return to " + address, x, 4, address);
        }
    }

    private static void stops(String what, int status, int invalid, int address) {
        WindowCore x = Bench.filled(status, Code.opNumber(Code.RETURN, 9, 0, address));
        x.control(Bench.INVALID, invalid);
        Bench.changesOnly(what, x, () -> Check.due(what, x.step(), 2), Bench.STOPPED, Bench.STEPS);
        Check.due(what + ": stopped", x.look(Bench.STOPPED), 1);
        Check.due(what + ": a step", x.look(Bench.STEPS), 1);
    }

    private static void stopsWithoutKernel() {
        Check.sentence("RETURN FROM TRAP with TRAPS 0: KERNEL is 0");
        stops("KERNEL 0", 0, 0, 8);
        stops("KERNEL 0, BEFORE 1", Bench.BEFORE, 0, 8);
        stops("KERNEL 0, and all else", 7, 0xFF, 9);
    }

    private static void stopsAtInvalidWindow() {
        Check.sentence("or the next window is invalid");
        for (int window = 0; window < 8; window++) {
            stops("the window behind " + window, Bench.KERNEL | window, 1 << (window + 1) % 8, 8);
        }
    }

    private static void stopsAtNoMultiple() {
        Check.sentence("or the address no multiple of 4: the machine stops");
        for (int address : new int[] {1, 2, 3, -1, -2, -3}) {
            stops("address " + address, Bench.KERNEL, 0, address);
        }
    }

    private static void stopsIsNoTrap() {
        Check.sentence("the machine stops");
        WindowCore x = Bench.with(Code.opNumber(Code.RETURN, 0, 0, 9));
        Check.due("run counts no trap", x.run(10), 0);
        Check.due("look(8) counts no trap", x.look(Bench.TRAP_COUNT), 0);
        Check.due("steps", x.look(Bench.STEPS), 1);
    }

    private static void withTrapsIsATrap() {
        Check.sentence("RETURN FROM TRAP with TRAPS 1");
        for (int invalid : new int[] {0, 0xFF}) {
            for (int address : new int[] {8, 9}) {
                int code = Code.opNumber(Code.RETURN, 0, 0, address);
                trapped("in kernel", Bench.KERNEL, invalid, code, 102);
                trapped("not in kernel", 0, invalid, code, 103);
            }
        }
    }

    private static void trapped(String what, int kernel, int invalid, int code, int due) {
        WindowCore x = Bench.with(code);
        x.control(Bench.STATUS, Bench.TRAPS | kernel);
        x.control(Bench.INVALID, invalid);
        Check.due(what, x.step(), due);
        Check.due(what + ": not stopped", x.look(Bench.STOPPED), 0);
        Check.due(what + ": a trap", x.look(Bench.TRAP_COUNT), 1);
        Check.due(what + ": its window", x.look(Bench.STATUS), Bench.KERNEL | kernel >> 1 | 7);
        Check.due(what + ": its PLACE", x.register(7, 17), 0);
    }

    private static void wakesAgain() {
        Check.sentence("the machine stops");
        WindowCore x = Bench.with(Code.opNumber(Code.RETURN, 0, 0, 8));
        x.control(Bench.INVALID, 2);
        Check.due("a window that is invalid", x.step(), 2);
        Check.due("a step of a stopped machine", x.step(), 2);
        x.control(Bench.INVALID, 0);
        Check.due("no window is invalid now", x.step(), 0);
        Bench.places("back", x, 4, 8);
        Check.due("steps", x.look(Bench.STEPS), 2);
    }
}
