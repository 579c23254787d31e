/** Machines made ready for a test, and what is seen of them from outside. */
final class Bench {
    static final int TRAPS = 1 << 5;
    static final int BEFORE = 1 << 6;
    static final int KERNEL = 1 << 7;
    static final int C = 1 << 20;
    static final int V = 1 << 21;
    static final int Z = 1 << 22;
    static final int N = 1 << 23;

    static final int STATUS = 0;
    static final int INVALID = 1;
    static final int TABLE = 2;
    static final int PLACE = 3;
    static final int NEXT = 4;
    static final int ANNULLED = 5;
    static final int STOPPED = 6;
    static final int STEPS = 7;
    static final int TRAP_COUNT = 8;
    static final int REQUEST = 9;

    private Bench() {
    }

    static WindowCore with(int... code) {
        WindowCore x = new WindowCore();
        load(x, 0, code);
        return x;
    }

    /** A machine that allows traps, so that a trap's type can be seen. */
    static WindowCore trapping(int... code) {
        WindowCore x = with(code);
        x.control(STATUS, KERNEL | TRAPS);
        return x;
    }

    static void load(WindowCore x, int address, int... code) {
        for (int i = 0; i < code.length; i++) {
            x.put(address + 4 * i, code[i]);
        }
    }

    static void at(WindowCore x, int place, int next) {
        x.control(PLACE, place);
        x.control(NEXT, next);
    }

    static void places(String what, WindowCore x, int place, int next) {
        Check.due(what + ": PLACE", x.look(PLACE), place);
        Check.due(what + ": NEXT", x.look(NEXT), next);
    }

    /** 162 calls, so that two of these stay well under the 512 of an object. */
    static int[] seen(WindowCore x) {
        int[] all = new int[10 + 136 + 16];
        int n = 0;
        for (int what = 0; what <= 9; what++) {
            all[n++] = x.look(what);
        }
        for (int r = 0; r < 8; r++) {
            all[n++] = x.register(0, r);
        }
        for (int w = 0; w < 8; w++) {
            for (int r = 8; r < 24; r++) {
                all[n++] = x.register(w, r);
            }
        }
        for (int address = 0; address < 4096; address += 256) {
            all[n++] = x.word(address);
        }
        return all;
    }

    static void changesNothing(String what, WindowCore x, Runnable calls) {
        changesOnly(what, x, calls);
    }

    /** All that is seen stays as it was, but for these parts of it. */
    static void changesOnly(String what, WindowCore x, Runnable calls, int... parts) {
        int[] before = seen(x);
        calls.run();
        int[] after = seen(x);
        for (int part : parts) {
            after[part] = before[part];
        }
        for (int i = 0; i < before.length; i++) {
            Check.due(what + ": part " + i + " that stays", after[i], before[i]);
        }
    }

    /** Which part of what is seen a register is; the parts 0 .. 9 are those of look. */
    static int part(int window, int register) {
        return register < 8 ? 10 + register : 18 + (16 * window + register - 8) % 128;
    }

    /** Which part of what is seen a word is; its address is a multiple of 256. */
    static int partOfWord(int address) {
        return 10 + 136 + address / 256;
    }

    /** A machine whose registers all differ, about to do what lies at 256. */
    static WindowCore filled(int status, int code) {
        WindowCore x = new WindowCore();
        for (int r = 1; r < 8; r++) {
            x.set(0, r, valueOf(0, r));
        }
        for (int w = 0; w < 8; w++) {
            for (int r = 8; r < 24; r++) {
                x.set(w, r, valueOf(w, r));
            }
        }
        x.put(256, code);
        x.control(STATUS, status);
        at(x, 256, 260);
        return x;
    }

    /** What a register of a filled machine has. */
    static int valueOf(int window, int register) {
        if (register < 8) {
            return 5000 * register;
        }
        return register < 24 ? 5000 + 100 * window + register : valueOf((window + 1) % 8, register - 16);
    }

    /** A machine about to move register 10 and what lies at an address. */
    static WindowCore moving(int kind, int address, int register) {
        WindowCore x = trapping();
        x.put(256, Code.move(kind, 10, 8, 0));
        x.set(0, 8, address);
        x.set(0, 10, register);
        at(x, 256, 260);
        return x;
    }

    /** A machine that has done one instruction with A and B in registers 8 and 9, and D 10. */
    static WindowCore done(int kind, int a, int b, int status) {
        WindowCore x = with(Code.op(kind, 10, 8, 9));
        x.control(STATUS, status);
        x.set(status & 7, 8, a);
        x.set(status & 7, 9, b);
        Check.due("kind " + kind, x.step(), 0);
        return x;
    }

    /** A machine in which no part is as at first. */
    static WindowCore stirred() {
        WindowCore x = with(Code.branch(0, true, 5));
        for (int address = 256; address < 4096; address += 256) {
            x.put(address, address * 31);
        }
        for (int r = 1; r < 8; r++) {
            x.set(0, r, 1000 + r);
        }
        for (int w = 0; w < 8; w++) {
            for (int r = 8; r < 24; r += 4) {
                x.set(w, r, 100 * w + r);
            }
        }
        x.control(STATUS, Z | V | 5 << 8 | KERNEL | TRAPS | 3);
        x.control(INVALID, 0x24);
        x.control(TABLE, 0x5A0);
        x.control(PLACE, 2048);
        x.step();
        x.control(STATUS, Z | V | 5 << 8 | KERNEL | BEFORE | TRAPS | 3);
        x.control(TABLE, 0x5A0);
        at(x, 0, 4);
        x.request(4);
        x.step();
        return x;
    }
}
