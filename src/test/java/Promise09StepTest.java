/** Promise 9: the answers of a step, and that an instruction can change what comes next. */
public final class Promise09StepTest {
    public static void main(String[] args) {
        answers();
        selfWritten();
        windowsOfInstructions();
        placeAlone();
        Check.end();
    }

    private static void answers() {
        WindowCore x = Bench.trapping(Code.NOTHING, Code.branch(0, true, 1), 0, Code.opNumber(Code.TRAP, 8, 0, 127));
        int[] due = {0, 0, 1, 100 + 255, 2, 2};
        for (int i = 0; i < due.length; i++) {
            Check.due("step " + i, x.step(), due[i]);
        }
    }

    private static void selfWritten() {
        WindowCore x = Bench.with(Code.moveNumber(Code.STORE_WORD, 9, 0, 4), 0);
        x.set(0, 9, Code.opNumber(Code.ADD, 10, 0, 42));
        Check.due("store", x.step(), 0);
        Check.due("what was stored", x.step(), 0);
        Check.due("register 10", x.register(0, 10), 42);
    }

    private static void windowsOfInstructions() {
        for (int w = 0; w < 8; w++) {
            WindowCore x = Bench.with(Code.op(Code.ADD, 17, 25, 9));
            x.control(Bench.STATUS, Bench.KERNEL | w);
            x.set((w + 1) % 8, 9, 30);
            x.set(w, 9, 12);
            x.step();
            for (int other = 0; other < 8; other++) {
                Check.due("window " + w + ", local of " + other, x.register(other, 17), other == w ? 42 : 0);
            }
        }
    }

    private static void placeAlone() {
        WindowCore x = new WindowCore();
        x.put(100, Code.NOTHING);
        x.control(Bench.PLACE, 100);
        Check.due("step", x.step(), 0);
        Bench.places("NEXT was 4", x, 4, 8);
    }
}
