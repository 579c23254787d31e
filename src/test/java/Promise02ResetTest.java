/** Promise 2: all but memory as at first. */
public final class Promise02ResetTest {
    public static void main(String[] args) {
        afterStirring();
        afterStopping();
        ofNewObject();
        worksAgain();
        Check.end();
    }

    private static void afterStirring() {
        WindowCore x = Bench.stirred();
        int[] before = Bench.seen(Bench.stirred());
        Check.due("stirred: annulled", x.look(Bench.ANNULLED), 1);
        x.reset();
        int[] first = Bench.seen(new WindowCore());
        int[] now = Bench.seen(x);
        for (int i = 0; i < first.length; i++) {
            boolean isMemory = i >= 10 + 136;
            Check.due("after reset, part " + i, now[i], isMemory ? before[i] : first[i]);
        }
    }

    private static void afterStopping() {
        WindowCore x = new WindowCore();
        Check.due("a step of nothing", x.step(), 2);
        x.reset();
        Check.due("stopped after reset", x.look(Bench.STOPPED), 0);
        Check.due("steps after reset", x.look(Bench.STEPS), 0);
        Check.due("traps after reset", x.look(Bench.TRAP_COUNT), 0);
        x.put(0, Code.NOTHING);
        Check.due("a step after reset", x.step(), 0);
    }

    private static void ofNewObject() {
        WindowCore x = new WindowCore();
        Bench.changesNothing("reset of a new object", x, x::reset);
    }

    private static void worksAgain() {
        WindowCore x = Bench.with(Code.opNumber(Code.ADD, 9, 9, 5));
        for (int i = 0; i < 3; i++) {
            x.step();
            Check.due("register 9 of run " + i, x.register(0, 9), 5);
            x.reset();
            Check.due("register 9 after reset " + i, x.register(0, 9), 0);
        }
    }
}
