import java.util.Arrays;

/** Machines made ready for a test, and what is seen of them from outside. */
final class Bench {
    static final int TRAPS = 1 << 5;
    static final int BEFORE = 1 << 6;
    static final int KERNEL = 1 << 7;
    static final int C = 1 << 20;
    static final int V = 1 << 21;
    static final int Z = 1 << 22;
    static final int N = 1 << 23;

    static final int STATUS = 0;
    static final int INVALID = 1;
    static final int TABLE = 2;
    static final int PLACE = 3;
    static final int NEXT = 4;
    static final int ANNULLED = 5;
    static final int STOPPED = 6;
    static final int STEPS = 7;
    static final int TRAP_COUNT = 8;
    static final int REQUEST = 9;

    private Bench() {
    }

    static WindowCore with(int... code) {
        WindowCore x = new WindowCore();
        load(x, 0, code);
        return x;
    }

    /** A machine that allows traps, so that a trap's type can be seen. */
    static WindowCore trapping(int... code) {
        WindowCore x = with(code);
        x.control(STATUS, KERNEL | TRAPS);
        return x;
    }

    static void load(WindowCore x, int address, int... code) {
        for (int i = 0; i < code.length; i++) {
            x.put(address + 4 * i, code[i]);
        }
    }

    static void at(WindowCore x, int place, int next) {
        x.control(PLACE, place);
        x.control(NEXT, next);
    }

    static void places(String what, WindowCore x, int place, int next) {
        Check.due(what + ": PLACE", x.look(PLACE), place);
        Check.due(what + ": NEXT", x.look(NEXT), next);
    }

    /** 162 calls, so that two of these stay well under the 512 of an object. */
    static int[] seen(WindowCore x) {
        int[] all = new int[10 + 136 + 16];
        int n = 0;
        for (int what = 0; what <= 9; what++) {
            all[n++] = x.look(what);
        }
        for (int r = 0; r < 8; r++) {
            all[n++] = x.register(0, r);
        }
        for (int w = 0; w < 8; w++) {
            for (int r = 8; r < 24; r++) {
                all[n++] = x.register(w, r);
            }
        }
        for (int address = 0; address < 4096; address += 256) {
            all[n++] = x.word(address);
        }
        return all;
    }

    static void changesNothing(String what, WindowCore x, Runnable calls) {
        int[] before = seen(x);
        calls.run();
        Check.holds(what + " changes nothing", Arrays.equals(before, seen(x)));
    }

    /** A machine in which no part is as at first. */
    static WindowCore stirred() {
        WindowCore x = with(Code.branch(0, true, 5));
        for (int address = 256; address < 4096; address += 256) {
            x.put(address, address * 31);
        }
        for (int r = 1; r < 8; r++) {
            x.set(0, r, 1000 + r);
        }
        for (int w = 0; w < 8; w++) {
            for (int r = 8; r < 24; r += 4) {
                x.set(w, r, 100 * w + r);
            }
        }
        x.control(STATUS, Z | V | 5 << 8 | KERNEL | TRAPS | 3);
        x.control(INVALID, 0x24);
        x.control(TABLE, 0x5A0);
        x.control(PLACE, 2048);
        x.step();
        x.control(STATUS, Z | V | 5 << 8 | KERNEL | BEFORE | TRAPS | 3);
        x.control(TABLE, 0x5A0);
        at(x, 0, 4);
        x.request(4);
        x.step();
        return x;
    }
}
