/** Promise 9: SAVE and RESTORE. */
public final class Promise09WindowTest {
    public static void main(String[] args) {
        for (int window = 0; window < 8; window++) {
            turn(Code.SAVE, window, (window + 7) % 8, 105);
            turn(Code.RESTORE, window, (window + 1) % 8, 106);
        }
        arguments();
        around();
        statusStays();
        toRegisterZero();
        Check.end();
    }

    private static void turn(int kind, int from, int to, int trap) {
        for (int invalid = -1; invalid < 8; invalid++) {
            WindowCore x = Bench.with(Code.op(kind, 18, 16, 17));
            x.control(Bench.STATUS, Bench.TRAPS | from);
            x.control(Bench.INVALID, invalid < 0 ? ~(1 << to) : 1 << invalid);
            x.set(from, 16, 40);
            x.set(from, 17, 2);
            x.set(to, 16, 1000);
            x.set(to, 18, 7);
            boolean traps = invalid == to;
            String what = "kind " + kind + " from " + from + ", invalid " + invalid;
            Check.due(what, x.step(), traps ? trap : 0);
            Check.due(what + ": window", x.look(Bench.STATUS) & 31, traps ? (from + 7) % 8 : to);
            Check.due(what + ": D of the old one", x.register(from, 18), 0);
            if (!traps) {
                Check.due(what + ": D of the new one", x.register(to, 18), 42);
                Bench.places(what, x, 4, 8);
            } else {
                Check.due(what + ": TABLE", x.look(Bench.TABLE), (trap - 100) << 4);
            }
        }
    }

    private static void arguments() {
        WindowCore x = Bench.with(Code.opNumber(Code.SAVE, 14, 14, -96), Code.opNumber(Code.ADD, 24, 24, 1),
            Code.opNumber(Code.RESTORE, 9, 24, 100));
        x.set(0, 8, 5);
        x.set(0, 14, 1000);
        x.step();
        Check.due("an argument comes in", x.register(7, 24), 5);
        Check.due("the old stack", x.register(7, 30), 1000);
        Check.due("the new stack", x.register(7, 14), 904);
        x.run(2);
        Check.due("an answer goes out", x.register(0, 8), 6);
        Check.due("a sum of the old window", x.register(0, 9), 106);
        Check.due("window 0", x.look(Bench.STATUS), Bench.KERNEL);
    }

    private static void around() {
        WindowCore x = Bench.with(Code.opNumber(Code.SAVE, 16, 16, 1), Code.opNumber(Code.SAVE, 16, 16, 1),
            Code.branch(Code.ALWAYS, false, -2), Code.NOTHING);
        x.run(16);
        Check.due("eight windows on", x.look(Bench.STATUS), Bench.KERNEL);
        Check.due("count of window 0", x.register(0, 16), 8);
        Check.due("count of window 7", x.register(7, 16), 1);
        Check.due("count of window 1", x.register(1, 16), 7);
    }

    private static void statusStays() {
        WindowCore x = Bench.with(Code.opNumber(Code.SAVE, 0, 0, 0));
        int rest = Bench.N | Bench.Z | Bench.V | Bench.C | 15 << 8 | Bench.BEFORE;
        x.control(Bench.STATUS, rest | 4);
        x.step();
        Check.due("STATUS but for the window", x.look(Bench.STATUS), rest | 3);
    }

    private static void toRegisterZero() {
        WindowCore x = Bench.with(Code.opNumber(Code.SAVE, 0, 0, 5), Code.opNumber(Code.RESTORE, 1, 0, 6));
        x.run(2);
        Check.due("register 0", x.register(7, 0), 0);
        Check.due("register 1", x.register(3, 1), 6);
    }
}
