/** Promise 10: run. */
public final class Promise10RunTest {
    public static void main(String[] args) {
        countsSteps();
        countsTraps();
        endsWhenStopped();
        annulledAreSteps();
        most();
        wrong();
        Check.end();
    }

    private static void countsSteps() {
        WindowCore x = Bench.with(Code.opNumber(Code.ADD, 9, 9, 1), Code.opNumber(Code.ADD, 9, 9, 1),
            Code.opNumber(Code.ADD, 9, 9, 1));
        Check.due("run(0)", x.run(0), 0);
        Check.due("steps of run(0)", x.look(Bench.STEPS), 0);
        Check.due("run(1)", x.run(1), 0);
        Check.due("after run(1)", x.register(0, 9), 1);
        Check.due("run(2)", x.run(2), 0);
        Check.due("after run(2)", x.register(0, 9), 3);
        Check.due("steps", x.look(Bench.STEPS), 3);
        Check.due("PLACE", x.look(Bench.PLACE), 12);
    }

    private static void countsTraps() {
        // The trap's routine goes to the instruction behind the one that trapped.
        WindowCore x = Bench.trapping(Code.opNumber(Code.TRAP, 8, 0, 1), Code.opNumber(Code.TRAP, 8, 0, 1),
            Code.NOTHING);
        Bench.load(x, 129 << 4, Code.op(Code.JUMP, 0, 18, 0), Code.opNumber(Code.RETURN, 0, 18, 4));
        Check.due("run(7)", x.run(7), 2);
        Check.due("steps", x.look(Bench.STEPS), 7);
        Check.due("PLACE", x.look(Bench.PLACE), 12);
        Check.due("traps", x.look(Bench.TRAP_COUNT), 2);
    }

    private static void endsWhenStopped() {
        WindowCore x = Bench.trapping(Code.NOTHING);
        Check.due("the trap that stops is not counted", x.run(100), 1);
        Check.due("steps until then", x.look(Bench.STEPS), 3);
        Check.due("all traps", x.look(Bench.TRAP_COUNT), 2);
        Check.due("stopped", x.look(Bench.STOPPED), 1);
        Check.due("run of a stopped machine", x.run(5000), 0);
        Check.due("no steps", x.look(Bench.STEPS), 3);
    }

    private static void annulledAreSteps() {
        WindowCore x = Bench.with(Code.branch(0, true, 1), 0, Code.opNumber(Code.ADD, 9, 0, 1));
        Check.due("run(2)", x.run(2), 0);
        Check.due("PLACE", x.look(Bench.PLACE), 8);
        Check.due("register 9", x.register(0, 9), 0);
    }

    private static void most() {
        WindowCore x = Bench.with(Code.branch(Code.ALWAYS, false, 0), Code.opNumber(Code.ADD, 9, 9, 1));
        Check.due("run(5000)", x.run(5000), 0);
        Check.due("steps", x.look(Bench.STEPS), 5000);
        Check.due("loops", x.register(0, 9), 2500);
    }

    private static void wrong() {
        WindowCore x = Bench.stirred();
        Bench.changesNothing("run of no number", x, () -> {
            for (int bad : new int[] {-1, 5001, 10000, Integer.MAX_VALUE, Integer.MIN_VALUE}) {
                Check.illegalArgument("run(" + bad + ")", () -> x.run(bad));
            }
        });
        WindowCore y = new WindowCore();
        y.step();
        Check.illegalArgument("run(-1) of a stopped machine", () -> y.run(-1));
    }
}
