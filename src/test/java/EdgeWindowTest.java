/** Edges of the terms: SAVE, RESTORE and traps at windows 0 and 7, invalid or not. */
public final class EdgeWindowTest {
    public static void main(String[] args) {
        saveFromZero();
        saveFromSeven();
        restoreFromSeven();
        restoreFromZero();
        sumIsOfTheOldWindow();
        invalidIsOfTheNewWindow();
        trapAtZeroAndSeven();
        invalidWithTrapsZero();
        saveIntoTheLastWindow();
        Check.end();
    }

    private static void turns(int kind, int from, int to, int invalid) {
        WindowCore x = Bench.filled(Bench.Z | 15 << 8 | Bench.BEFORE | from, Code.opNumber(kind, 20, 20, 3));
        x.control(Bench.INVALID, invalid);
        Bench.changesOnly("kind " + kind, x, () -> Check.due("kind " + kind + " from " + from, x.step(), 0),
            Bench.STATUS, Bench.PLACE, Bench.NEXT, Bench.STEPS, Bench.part(to, 20));
        Check.due("STATUS", x.look(Bench.STATUS), Bench.Z | 15 << 8 | Bench.BEFORE | to);
        Check.due("register 20 of " + to, x.register(to, 20), Bench.valueOf(from, 20) + 3);
    }

    private static void saveFromZero() {
        Check.sentence("60 SAVE: the window is the one before (of 0: 7)");
        turns(Code.SAVE, 0, 7, 0);
        turns(Code.SAVE, 0, 7, 0x7F);
    }

    private static void saveFromSeven() {
        Check.sentence("60 SAVE: the window is the one before");
        turns(Code.SAVE, 7, 6, 0);
        turns(Code.SAVE, 7, 6, 0xBF);
        turns(Code.SAVE, 1, 0, 0xFE);
    }

    private static void restoreFromSeven() {
        Check.sentence("61 RESTORE: likewise with the next window");
        turns(Code.RESTORE, 7, 0, 0);
        turns(Code.RESTORE, 7, 0, 0xFE);
    }

    private static void restoreFromZero() {
        Check.sentence("61 RESTORE: likewise with the next window");
        turns(Code.RESTORE, 0, 1, 0);
        turns(Code.RESTORE, 0, 1, 0xFD);
        turns(Code.RESTORE, 6, 7, 0x7F);
    }

    private static void sumIsOfTheOldWindow() {
        Check.sentence("then D of the new window becomes A + B of the old one");
        int[][] turns = {{Code.SAVE, 0, 7}, {Code.SAVE, 4, 3}, {Code.RESTORE, 7, 0}, {Code.RESTORE, 3, 4}};
        for (int[] turn : turns) {
            for (int r : new int[] {8, 15, 16, 23, 24, 31}) {
                WindowCore x = Bench.filled(turn[1], Code.op(turn[0], r, r, r));
                int sum = 2 * Bench.valueOf(turn[1], r);
                Check.due("kind " + turn[0] + " from " + turn[1], x.step(), 0);
                Check.due("D " + r + " of " + turn[2], x.register(turn[2], r), sum);
            }
        }
        WindowCore y = Bench.with(Code.op(Code.SAVE, 16, 8, 8));
        y.set(0, 8, 0x80000001);
        y.step();
        Check.due("a sum of 32 bits", y.register(7, 16), 2);
    }

    private static void invalidIsOfTheNewWindow() {
        Check.sentence("5, 6 SAVE, RESTORE to a window that is INVALID");
        int[][] turns = {{Code.SAVE, 0, 7, 105}, {Code.SAVE, 7, 6, 105}, {Code.SAVE, 1, 0, 105},
            {Code.RESTORE, 7, 0, 106}, {Code.RESTORE, 0, 1, 106}, {Code.RESTORE, 6, 7, 106}};
        for (int[] turn : turns) {
            int from = turn[1];
            int before = (from + 7) % 8;
            WindowCore x = Bench.filled(Bench.TRAPS | from, Code.op(turn[0], 20, 20, 20));
            x.control(Bench.INVALID, 1 << turn[2]);
            Bench.changesOnly("kind " + turn[0], x, () -> Check.due("from " + from, x.step(), turn[3]), Bench.STATUS,
                Bench.TABLE, Bench.PLACE, Bench.NEXT, Bench.STEPS, Bench.TRAP_COUNT, Bench.part(before, 17),
                Bench.part(before, 18));
            Check.due("the trap's window", x.look(Bench.STATUS), Bench.KERNEL | before);
            Check.due("register 17", x.register(before, 17), 256);
        }
    }

    private static void trapAtZeroAndSeven() {
        Check.sentence("the window is the one before, whether invalid or not");
        int[][] windows = {{0, 7}, {7, 6}, {1, 0}};
        for (int[] window : windows) {
            for (int invalid : new int[] {0, 1 << window[1], 0xFF}) {
                WindowCore x = Bench.with(0);
                x.control(Bench.STATUS, Bench.TRAPS | window[0]);
                x.control(Bench.INVALID, invalid);
                Bench.at(x, 64, 128);
                Check.due("a trap at " + window[0], x.step(), 102);
                Check.due("its window", x.look(Bench.STATUS), Bench.KERNEL | window[1]);
                Check.due("register 17 there", x.register(window[1], 17), 64);
                Check.due("register 18 there", x.register(window[1], 18), 128);
            }
        }
    }

    private static void invalidWithTrapsZero() {
        Check.sentence("with TRAPS 0 the machine stops");
        int[][] turns = {{Code.SAVE, 0, 7}, {Code.RESTORE, 7, 0}};
        for (int[] turn : turns) {
            WindowCore x = Bench.with(Code.op(turn[0], 9, 8, 8));
            x.control(Bench.STATUS, Bench.KERNEL | turn[1]);
            x.control(Bench.INVALID, 1 << turn[2]);
            Check.due("kind " + turn[0], x.step(), 2);
            Check.due("the window stays", x.look(Bench.STATUS), Bench.KERNEL | turn[1]);
            x.control(Bench.INVALID, 0xFF ^ 1 << turn[2]);
            Check.due("kind " + turn[0] + " when it is valid", x.step(), 0);
            Check.due("the new window", x.look(Bench.STATUS), Bench.KERNEL | turn[2]);
        }
    }

    private static void saveIntoTheLastWindow() {
        Check.sentence("5, 6 SAVE, RESTORE to a window that is INVALID");
        // Window 0 is kept for the trap: the windows are used up after six SAVEs from 7.
        WindowCore x = Bench.with(Code.op(Code.SAVE, 0, 0, 0), Code.branch(Code.ALWAYS, true, -1));
        x.control(Bench.STATUS, Bench.TRAPS | 7);
        x.control(Bench.INVALID, 1);
        Check.due("six times SAVE, branch and slot", x.run(3 * 6), 0);
        Check.due("the last window", x.look(Bench.STATUS), Bench.TRAPS | 1);
        Check.due("the windows are used up", x.step(), 105);
        Check.due("the trap is in the window kept for it", x.look(Bench.STATUS), Bench.KERNEL);
    }
}
