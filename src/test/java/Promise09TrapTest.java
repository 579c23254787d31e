/** Promise 9: traps by a table, TRAP, RETURN FROM TRAP, and the machine's stop. */
public final class Promise09TrapTest {
    public static void main(String[] args) {
        entering();
        trapInSlot();
        stopping();
        for (int condition = 0; condition < 16; condition++) {
            for (int flags = 0; flags < 16; flags++) {
                conditional(condition, flags);
            }
        }
        numbers();
        returning();
        returningWrongly();
        returnThatStops();
        thereAndBack();
        noInstruction();
        Check.end();
    }

    private static void entering() {
        for (int window = 0; window < 8; window++) {
            for (int kernel = 0; kernel < 2; kernel++) {
                WindowCore x = new WindowCore();
                int rest = Bench.N | Bench.C | 9 << 8;
                x.control(Bench.STATUS, rest | kernel << 7 | (1 - kernel) << 6 | Bench.TRAPS | window);
                x.control(Bench.TABLE, 0xABCDEFF0);
                x.control(Bench.INVALID, 0xFF);
                Bench.at(x, 64, 200);
                int before = (window + 7) % 8;
                Check.due("trap", x.step(), 102);
                Check.due("STATUS", x.look(Bench.STATUS), rest | Bench.KERNEL | kernel << 6 | before);
                Check.due("register 17", x.register(before, 17), 64);
                Check.due("register 18", x.register(before, 18), 200);
                Check.due("TABLE", x.look(Bench.TABLE), 0xABCDE020);
                Bench.places("in the table", x, 0xABCDE020, 0xABCDE024);
                Check.due("INVALID", x.look(Bench.INVALID), 0xFF);
                Check.due("stopped", x.look(Bench.STOPPED), 0);
                Check.due("register 16", x.register(before, 16), 0);
                Check.due("register 19", x.register(before, 19), 0);
            }
        }
    }

    private static void trapInSlot() {
        WindowCore x = Bench.trapping(Code.branch(Code.ALWAYS, false, 50), 0);
        x.step();
        Check.due("trap in a slot", x.step(), 102);
        Check.due("PLACE", x.register(7, 17), 4);
        Check.due("NEXT is the target", x.register(7, 18), 200);
    }

    private static void stopping() {
        WindowCore x = Bench.with();
        x.control(Bench.TABLE, 0x7770);
        x.set(7, 17, 5);
        Check.due("trap with TRAPS 0", x.step(), 2);
        Check.due("stopped", x.look(Bench.STOPPED), 1);
        Check.due("traps", x.look(Bench.TRAP_COUNT), 1);
        Check.due("steps", x.look(Bench.STEPS), 1);
        Check.due("STATUS", x.look(Bench.STATUS), Bench.KERNEL);
        Check.due("TABLE", x.look(Bench.TABLE), 0x7770);
        Check.due("register 17", x.register(7, 17), 5);
        Bench.places("stopped", x, 0, 4);
        x.put(0, Code.NOTHING);
        Check.due("step of a stopped machine", x.step(), 2);
        Bench.places("still there", x, 0, 4);
        Check.due("steps of a stopped machine", x.look(Bench.STEPS), 1);
        Check.due("traps of a stopped machine", x.look(Bench.TRAP_COUNT), 1);
        x.request(15);
        Check.due("no interrupt of a stopped machine", x.step(), 2);
    }

    private static void conditional(int condition, int flags) {
        WindowCore x = Bench.with(Code.opNumber(Code.TRAP, condition, 8, 3));
        x.set(0, 8, 30);
        x.control(Bench.STATUS, flags << 20 | Bench.TRAPS);
        boolean holds = Promise09BranchTest.holds(condition, flags);
        String what = "TRAP of condition " + condition + " with flags " + flags;
        Check.due(what, x.step(), holds ? 100 + 128 + 33 : 0);
        Check.due(what + ": PLACE", x.look(Bench.PLACE), holds ? (128 + 33) << 4 : 4);
    }

    private static void numbers() {
        for (int number : new int[] {0, 1, 127, 128, 129, 4095, -1, -128, -4096}) {
            WindowCore x = Bench.trapping(Code.opNumber(Code.TRAP, 8, 0, number));
            Check.due("TRAP " + number, x.step(), 228 + (number & 127));
        }
        WindowCore y = Bench.trapping(Code.op(Code.TRAP, 8, 8, 9));
        y.set(0, 8, 0x7FFFFFFF);
        y.set(0, 9, 6);
        Check.due("TRAP of a sum that wraps", y.step(), 228 + 5);
        WindowCore z = Bench.with(Code.opNumber(Code.TRAP, 8, 0, 3));
        Check.due("TRAP with TRAPS 0", z.step(), 2);
        // Bit 29 is no part of the condition.
        WindowCore u = Bench.trapping(Code.opNumber(Code.TRAP, 16 + 8, 0, 3));
        Check.due("TRAP with bit 29", u.step(), 231);
    }

    private static void returning() {
        for (int window = 0; window < 8; window++) {
            for (int before = 0; before < 2; before++) {
                WindowCore x = Bench.with(Code.opNumber(Code.RETURN, 9, 18, 8));
                x.set(window, 18, 400);
                int rest = Bench.Z | 3 << 8 | before << 6;
                x.control(Bench.STATUS, rest | Bench.KERNEL | window);
                x.control(Bench.INVALID, ~(1 << (window + 1) % 8));
                Check.due("return", x.step(), 0);
                Bench.places("return", x, 4, 408);
                Check.due("STATUS", x.look(Bench.STATUS), rest | Bench.TRAPS | before << 7 | (window + 1) % 8);
                Check.due("D is not written", x.register(window, 9) + x.register((window + 1) % 8, 9), 0);
            }
        }
    }

    private static void returningWrongly() {
        WindowCore x = Bench.trapping(Code.opNumber(Code.RETURN, 0, 0, 3));
        Check.due("return with TRAPS 1, KERNEL 1", x.step(), 102);
        WindowCore y = Bench.with(Code.opNumber(Code.RETURN, 0, 0, 3));
        y.control(Bench.STATUS, Bench.TRAPS);
        y.control(Bench.INVALID, 0xFF);
        Check.due("return with TRAPS 1, KERNEL 0", y.step(), 103);
    }

    private static void returnThatStops() {
        stops("KERNEL is 0", Bench.BEFORE, 0, 8);
        stops("the next window is invalid", Bench.KERNEL, 2, 8);
        stops("the next window of 7 is invalid", Bench.KERNEL | 7, 1, 8);
        stops("the address is 9", Bench.KERNEL, 0, 9);
        stops("the address is 10", Bench.KERNEL, 0, 10);
        stops("the address is 11", Bench.KERNEL, 0, 11);
    }

    private static void stops(String what, int status, int invalid, int address) {
        WindowCore x = Bench.with(Code.opNumber(Code.RETURN, 0, 0, address));
        x.control(Bench.STATUS, status);
        x.control(Bench.INVALID, invalid);
        Check.due(what, x.step(), 2);
        Check.due(what + ": stopped", x.look(Bench.STOPPED), 1);
        Check.due(what + ": STATUS", x.look(Bench.STATUS), status);
        Check.due(what + ": steps", x.look(Bench.STEPS), 1);
        Check.due(what + ": no trap", x.look(Bench.TRAP_COUNT), 0);
        Bench.places(what, x, 0, 4);
    }

    private static void thereAndBack() {
        WindowCore x = Bench.with(Code.opNumber(Code.TRAP, 8, 0, 5), Code.opNumber(Code.ADD, 9, 9, 1));
        x.control(Bench.STATUS, Bench.TRAPS | 4);
        x.control(Bench.TABLE, 0);
        Bench.load(x, 133 << 4, Code.op(Code.JUMP, 0, 18, 0), Code.opNumber(Code.RETURN, 0, 18, 4));
        Check.due("TRAP", x.step(), 233);
        Check.due("in kernel", x.look(Bench.STATUS), Bench.KERNEL | 3);
        Check.due("jump", x.step(), 0);
        Check.due("return", x.step(), 0);
        Bench.places("back", x, 4, 8);
        Check.due("not in kernel", x.look(Bench.STATUS), Bench.TRAPS | 4);
        Check.due("behind the TRAP", x.step(), 0);
        Check.due("register 9 of window 4", x.register(4, 9), 1);
    }

    private static void noInstruction() {
        for (int kind = 0; kind < 64; kind++) {
            unknown("operation " + kind, Code.opNumber(kind, 8, 0, 4), isOperation(kind));
            unknown("transfer " + kind, Code.moveNumber(kind, 8, 0, 512), isTransfer(kind));
        }
        for (int kind = 0; kind < 8; kind++) {
            unknown("short " + kind, 8 << 25 | kind << 22 | 9, kind == 2 || kind == 4);
        }
    }

    private static boolean isOperation(int kind) {
        boolean isArithmetic = kind < 32 && (kind % 16 <= 8 || kind % 16 == 12);
        return isArithmetic || kind >= 37 && kind <= 39 || kind >= 41 && kind <= 43 || kind >= 49 && kind <= 51
            || kind >= 56 && kind <= 58 || kind == 60 || kind == 61;
    }

    private static boolean isTransfer(int kind) {
        return kind <= 7 || kind == 9 || kind == 10 || kind == 13 || kind == 15;
    }

    private static void unknown(String what, int code, boolean isKnown) {
        // With TRAPS 0 the machine stops at what is none of the instructions, and at TRAP itself.
        WindowCore x = Bench.with(code);
        boolean isTrap = code == Code.opNumber(Code.TRAP, 8, 0, 4);
        Check.due(what + " with TRAPS 0", x.step(), isKnown && !isTrap ? 0 : 2);
        if (!isKnown) {
            WindowCore y = Bench.with(code);
            y.control(Bench.STATUS, Bench.TRAPS);
            Check.due(what, y.step(), 102);
            Check.due(what + ": register 8", y.register(0, 8), 0);
        }
    }
}
