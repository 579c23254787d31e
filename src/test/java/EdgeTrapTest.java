/** Edges of the terms: a trap, with TRAPS 0 and with TRAPS 1. */
public final class EdgeTrapTest {
    /** Words that trap with KERNEL 0, with INVALID 0xFF, in any window. */
    private static final int[] CODES = {0, Code.op(Code.READ_STATUS, 9, 0, 0), Code.op(Code.SAVE, 0, 0, 0),
        Code.op(Code.RESTORE, 0, 0, 0), Code.opNumber(Code.JUMP, 9, 0, 2), Code.moveNumber(Code.WORD, 9, 0, -4),
        Code.opNumber(Code.TRAP, Code.ALWAYS, 0, 127)};
    private static final int[] TYPES = {2, 3, 5, 6, 7, 9, 255};

    public static void main(String[] args) {
        stops();
        stopsWithoutPlace();
        eachTypeComes();
        trapsIsZero();
        beforeBecomesKernel();
        windowBefore();
        registersOfTheNewWindow();
        tableGetsTheType();
        placeBecomesTable();
        trapInATrapStops();
        Check.end();
    }

    private static WindowCore about(int status, int code) {
        WindowCore x = Bench.filled(status, code);
        x.control(Bench.INVALID, 0xFF);
        x.control(Bench.TABLE, 0x12345AB0);
        return x;
    }

    private static void stops() {
        Check.sentence("A TRAP: with TRAPS 0 the machine stops");
        for (int i = 0; i < CODES.length; i++) {
            WindowCore x = about(i % 8, CODES[i]);
            Bench.changesOnly("type " + TYPES[i], x, () -> Check.due("a stop", x.step(), 2), Bench.STOPPED,
                Bench.STEPS, Bench.TRAP_COUNT);
            Check.due("stopped by type " + TYPES[i], x.look(Bench.STOPPED), 1);
            Check.due("a step", x.look(Bench.STEPS), 1);
            Check.due("a trap", x.look(Bench.TRAP_COUNT), 1);
        }
    }

    private static void stopsWithoutPlace() {
        Check.sentence("A TRAP: with TRAPS 0 the machine stops");
        for (int place : new int[] {4096, -4}) {
            WindowCore x = about(Bench.KERNEL, 0);
            x.control(Bench.PLACE, place);
            Bench.changesOnly("PLACE " + place, x, () -> Check.due("PLACE " + place, x.step(), 2), Bench.STOPPED,
                Bench.STEPS, Bench.TRAP_COUNT);
        }
    }

    private static void eachTypeComes() {
        Check.sentence("A TRAP: with TRAPS 0 the machine stops. Else");
        for (int i = 0; i < CODES.length; i++) {
            WindowCore x = about(Bench.TRAPS, CODES[i]);
            Check.due("type " + TYPES[i], x.step(), 100 + TYPES[i]);
            Check.due("not stopped", x.look(Bench.STOPPED), 0);
            Check.due("a trap", x.look(Bench.TRAP_COUNT), 1);
        }
    }

    private static void trapsIsZero() {
        Check.sentence("Else TRAPS is 0");
        for (int other : new int[] {0, 0x00F00FC7}) {
            WindowCore x = Bench.with(0);
            x.control(Bench.STATUS, other | Bench.TRAPS);
            x.step();
            Check.due("TRAPS", x.look(Bench.STATUS) & Bench.TRAPS, 0);
            Check.due("flags and LEVEL stay", x.look(Bench.STATUS) & 0x00F00F00, other & 0x00F00F00);
        }
    }

    private static void beforeBecomesKernel() {
        Check.sentence("BEFORE becomes KERNEL, KERNEL is 1");
        for (int before : new int[] {0, Bench.BEFORE}) {
            for (int kernel : new int[] {0, Bench.KERNEL}) {
                WindowCore x = Bench.with(0);
                x.control(Bench.STATUS, Bench.TRAPS | before | kernel);
                x.step();
                Check.due("STATUS", x.look(Bench.STATUS), Bench.KERNEL | kernel >> 1 | 7);
            }
        }
    }

    private static void windowBefore() {
        Check.sentence("the window is the one before, whether invalid or not");
        for (int window = 0; window < 8; window++) {
            int before = (window + 7) % 8;
            for (int invalid : new int[] {0, 0xFF, 1 << before, 0xFF ^ 1 << before}) {
                WindowCore x = Bench.with(0);
                x.control(Bench.STATUS, Bench.TRAPS | window);
                x.control(Bench.INVALID, invalid);
                Check.due("from " + window + " with INVALID " + invalid, x.step(), 102);
                Check.due("window", x.look(Bench.STATUS), Bench.KERNEL | before);
                Check.due("INVALID stays", x.look(Bench.INVALID), invalid);
            }
        }
    }

    private static void registersOfTheNewWindow() {
        Check.sentence("its registers 17 and 18 become PLACE and NEXT");
        for (int window = 0; window < 8; window++) {
            int before = (window + 7) % 8;
            WindowCore x = about(Bench.TRAPS | window, 0);
            x.control(Bench.NEXT, -8);
            Bench.changesOnly("from " + window, x, x::step, Bench.STATUS, Bench.TABLE, Bench.PLACE, Bench.NEXT,
                Bench.STEPS, Bench.TRAP_COUNT, Bench.part(before, 17), Bench.part(before, 18));
            Check.due("register 17 of " + before, x.register(before, 17), 256);
            Check.due("register 18 of " + before, x.register(before, 18), -8);
        }
        WindowCore y = Bench.trapping();
        Bench.at(y, -4, 4096);
        y.step();
        Check.due("a PLACE that is not in memory", y.register(7, 17), -4);
        Check.due("a NEXT that is not in memory", y.register(7, 18), 4096);
    }

    private static void tableGetsTheType() {
        Check.sentence("TABLE gets the type");
        for (int i = 0; i < CODES.length; i++) {
            WindowCore x = about(Bench.TRAPS, CODES[i]);
            x.step();
            Check.due("TABLE", x.look(Bench.TABLE), 0x12345000 | TYPES[i] << 4);
        }
        for (int request : new int[] {1, 15}) {
            WindowCore y = about(Bench.TRAPS, Code.NOTHING);
            y.request(request);
            y.step();
            Check.due("TABLE of request " + request, y.look(Bench.TABLE), 0x12345000 | (16 + request) << 4);
        }
        WindowCore z = about(Bench.TRAPS, 0);
        z.control(Bench.PLACE, 4096);
        z.step();
        Check.due("TABLE of type 1", z.look(Bench.TABLE), 0x12345010);
    }

    private static void placeBecomesTable() {
        Check.sentence("PLACE becomes TABLE, NEXT 4 more");
        for (int base : new int[] {0, 0x7FFFF000, 0xFFFFF000}) {
            WindowCore x = Bench.trapping(Code.opNumber(Code.TRAP, Code.ALWAYS, 0, 127));
            x.control(Bench.TABLE, base);
            x.step();
            Bench.places("base " + base, x, base + 0xFF0, base + 0xFF4);
        }
        WindowCore y = Bench.trapping(Code.opNumber(Code.TRAP, Code.ALWAYS, 0, 127));
        Bench.load(y, 4080, Code.opNumber(Code.ADD, 1, 1, 1), Code.opNumber(Code.ADD, 1, 1, 16));
        y.run(3);
        Check.due("what lies in the last row is done", y.register(0, 1), 17);
    }

    private static void trapInATrapStops() {
        Check.sentence("with TRAPS 0 the machine stops");
        WindowCore x = Bench.trapping(0);
        Check.due("the first", x.step(), 102);
        Check.due("the second", x.step(), 2);
        Bench.places("in the table", x, 0x20, 0x24);
        Check.due("the first one's window", x.look(Bench.STATUS), Bench.KERNEL | Bench.BEFORE | 7);
        Check.due("register 17", x.register(7, 17), 0);
        Check.due("traps", x.look(Bench.TRAP_COUNT), 2);
    }
}
