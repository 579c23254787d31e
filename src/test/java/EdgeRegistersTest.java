/** Edges of the terms: the registers and how the windows overlap. */
public final class EdgeRegistersTest {
    public static void main(String[] args) {
        sharedByAllWindows();
        zeroWhateverIsSet();
        zeroWhateverInstructionsWrite();
        zeroAsItIsRead();
        borders();
        insAreOutsOfNext();
        insOfSevenAreOutsOfZero();
        instructionsSeeTheOverlap();
        Check.end();
    }

    private static void sharedByAllWindows() {
        Check.sentence("0 .. 7 are the same in all windows");
        for (int r : new int[] {1, 7}) {
            for (int w = 0; w < 8; w++) {
                WindowCore x = Bench.with(Code.opNumber(Code.ADD, r, 0, 42));
                x.control(Bench.STATUS, Bench.KERNEL | w);
                x.step();
                for (int other = 0; other < 8; other++) {
                    Check.due("register " + r + " of " + other + ", from " + w, x.register(other, r), 42);
                }
            }
        }
        WindowCore y = new WindowCore();
        y.set(3, 8, 9);
        for (int w = 0; w < 8; w++) {
            Check.due("register 8, set in 3, of " + w, y.register(w, 8), w == 3 ? 9 : 0);
        }
    }

    private static void zeroWhateverIsSet() {
        Check.sentence("0 is always 0, whatever is written to it");
        WindowCore x = new WindowCore();
        for (int w = 0; w < 8; w++) {
            for (int v : new int[] {1, -1, 0x80000000}) {
                Check.due("set(" + w + ", 0, " + v + ")", x.set(w, 0, v), 0);
                Check.due("register(" + w + ", 0)", x.register(w, 0), 0);
            }
        }
    }

    private static void zeroWhateverInstructionsWrite() {
        Check.sentence("0 is always 0, whatever is written to it");
        int[] kinds = {0, 1, 2, 3, 4, 5, 6, 7, 8, 12, 16, 17, 18, 19, 20, 21, 22, 23, 24, 28, 37, 38, 39, 41, 42, 43,
            56, 60, 61};
        for (int kind : kinds) {
            staysZero("kind " + kind, Code.opNumber(kind, 0, 8, 4));
        }
        for (int kind : new int[] {0, 1, 2, 3, 9, 10, 13, 15}) {
            staysZero("kind " + kind + " of memory", Code.moveNumber(kind, 0, 0, 512));
        }
        staysZero("bits 0 .. 21", Code.high(0, 0x3FFFFF));
    }

    private static void staysZero(String what, int code) {
        WindowCore x = Bench.with();
        x.put(256, code);
        x.put(512, -1);
        x.set(0, 8, 0x00FFFFF0);
        x.control(Bench.STATUS, Bench.KERNEL | Bench.C);
        x.control(Bench.INVALID, 0x7C);
        x.control(Bench.TABLE, 0x1230);
        Bench.at(x, 256, 260);
        Check.due(what, x.step(), 0);
        for (int w = 0; w < 8; w++) {
            Check.due(what + ": register 0 of " + w, x.register(w, 0), 0);
        }
    }

    private static void zeroAsItIsRead() {
        Check.sentence("0 is always 0, whatever is written to it");
        WindowCore x = Bench.with(Code.opNumber(Code.ADD, 0, 0, 9), Code.op(Code.ADD, 10, 0, 0),
            Code.moveNumber(Code.STORE_WORD, 0, 0, 512));
        x.set(0, 0, 5);
        x.set(0, 10, 6);
        x.put(512, 7);
        x.run(3);
        Check.due("as A and as B", x.register(0, 10), 0);
        Check.due("as D that is stored", x.word(512), 0);
    }

    private static void borders() {
        Check.sentence("8 .. 15 OUTS, 16 .. 23 LOCALS, 24 .. 31 INS of the WINDOW, which is 0 .. 7");
        for (int w = 0; w < 8; w++) {
            WindowCore x = new WindowCore();
            for (int r : new int[] {7, 8, 15, 16, 23, 24, 31}) {
                x.set(w, r, 100 + r);
            }
            int before = (w + 7) % 8;
            int next = (w + 1) % 8;
            Check.due("7 in the window before " + w, x.register(before, 7), 107);
            Check.due("8 in the window before " + w, x.register(before, 24), 108);
            Check.due("15 in the window before " + w, x.register(before, 31), 115);
            Check.due("16 in the window before " + w, x.register(before, 16), 0);
            Check.due("23 in the window behind " + w, x.register(next, 23), 0);
            Check.due("24 in the window behind " + w, x.register(next, 8), 124);
            Check.due("31 in the window behind " + w, x.register(next, 15), 131);
            Check.due("16 of " + w, x.register(w, 16), 116);
            Check.due("23 of " + w, x.register(w, 23), 123);
        }
    }

    private static void insAreOutsOfNext() {
        Check.sentence("The ins of window w are the outs of window w + 1");
        for (int w = 0; w < 7; w++) {
            WindowCore x = new WindowCore();
            for (int i = 0; i < 8; i++) {
                x.set(w, 24 + i, 10 * w + i + 1);
                Check.due("out " + i + " of " + (w + 1), x.register(w + 1, 8 + i), 10 * w + i + 1);
                x.set(w + 1, 8 + i, -i - 1);
                Check.due("in " + i + " of " + w, x.register(w, 24 + i), -i - 1);
            }
        }
    }

    private static void insOfSevenAreOutsOfZero() {
        Check.sentence("(of 7: of 0)");
        WindowCore x = new WindowCore();
        for (int i = 0; i < 8; i++) {
            x.set(7, 24 + i, 70 + i);
            Check.due("out " + i + " of 0", x.register(0, 8 + i), 70 + i);
            x.set(0, 8 + i, -70 - i);
            Check.due("in " + i + " of 7", x.register(7, 24 + i), -70 - i);
        }
    }

    private static void instructionsSeeTheOverlap() {
        Check.sentence("The ins of window w are the outs of window w + 1 (of 7: of 0)");
        for (int w = 0; w < 8; w++) {
            int next = (w + 1) % 8;
            WindowCore x = Bench.with(Code.op(Code.ADD, 31, 24, 30));
            x.control(Bench.STATUS, Bench.KERNEL | w);
            x.set(next, 8, 40);
            x.set(next, 14, 2);
            x.step();
            Check.due("in 7 of " + w, x.register(next, 15), 42);
        }
    }
}
