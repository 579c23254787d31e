/** Edges of promises 9 to 11: step, run and look. */
public final class EdgeRunAndLookTest {
    /** One step more, without end: a branch to itself with its slot. */
    private static final int[] LOOP = {Code.branch(Code.ALWAYS, false, 0), Code.opNumber(Code.ADD, 9, 9, 1)};

    public static void main(String[] args) {
        answersOfDone();
        answersOfTraps();
        answersOfStops();
        runOfNone();
        runOfMost();
        runEndsWhenStopped();
        runEndsInItsLastStep();
        runCountsTraps();
        runCountsNoOtherAnswers();
        runOfNoNumber();
        lookAtAnnulled();
        lookAtStopped();
        lookAtSteps();
        lookAtTraps();
        lookAtNoThing();
        Check.end();
    }

    private static void answersOfDone() {
        Check.sentence("0 an instruction was done, 1 it was annulled");
        WindowCore x = Bench.with(Code.branch(0, true, 1), 0, Code.branch(Code.ALWAYS, false, 1), Code.NOTHING);
        int[] due = {0, 1, 0, 0};
        for (int i = 0; i < due.length; i++) {
            Check.due("step " + i, x.step(), due[i]);
        }
    }

    private static void answersOfTraps() {
        Check.sentence("100 + the type of a trap");
        WindowCore lowest = Bench.trapping();
        lowest.control(Bench.PLACE, -4);
        Check.due("type 1", lowest.step(), 101);
        WindowCore highest = Bench.trapping(Code.opNumber(Code.TRAP, Code.ALWAYS, 0, -1));
        Check.due("type 255", highest.step(), 355);
        WindowCore interrupt = Bench.trapping(Code.NOTHING);
        interrupt.request(15);
        Check.due("type 31", interrupt.step(), 131);
    }

    private static void answersOfStops() {
        Check.sentence("2 the machine stopped, or was");
        WindowCore x = Bench.with(Code.opNumber(Code.TRAP, Code.ALWAYS, 0, -1));
        Check.due("it stopped", x.step(), 2);
        Check.due("it was", x.step(), 2);
        WindowCore y = Bench.with(Code.opNumber(Code.RETURN, 0, 0, 1));
        Check.due("a return stopped it", y.step(), 2);
        Check.due("it was", y.step(), 2);
    }

    private static void runOfNone() {
        Check.sentence("So many steps");
        WindowCore x = Bench.stirred();
        Bench.changesNothing("run(0)", x, () -> Check.due("run(0)", x.run(0), 0));
        WindowCore y = Bench.with(LOOP);
        y.run(1);
        Check.due("steps of run(1)", y.look(Bench.STEPS), 1);
    }

    private static void runOfMost() {
        Check.sentence("So many steps");
        WindowCore x = Bench.with(LOOP);
        Check.due("run(5000)", x.run(5000), 0);
        Check.due("steps", x.look(Bench.STEPS), 5000);
        Check.due("every second one adds", x.register(0, 9), 2500);
        Check.due("run(4999)", x.run(4999), 0);
        Check.due("steps of both", x.look(Bench.STEPS), 9999);
    }

    private static void runEndsWhenStopped() {
        Check.sentence("as long as it is not stopped");
        WindowCore x = Bench.with(Code.NOTHING, Code.NOTHING, 0);
        Check.due("run(5000)", x.run(5000), 0);
        Check.due("steps", x.look(Bench.STEPS), 3);
        Check.due("stopped", x.look(Bench.STOPPED), 1);
        x.put(8, Code.NOTHING);
        Check.due("run of a stopped machine", x.run(1), 0);
        Check.due("no step more", x.look(Bench.STEPS), 3);
        Check.due("PLACE", x.look(Bench.PLACE), 8);
    }

    private static void runEndsInItsLastStep() {
        Check.sentence("as long as it is not stopped");
        WindowCore x = Bench.with(Code.NOTHING, Code.NOTHING, 0);
        x.run(2);
        Check.due("not stopped before", x.look(Bench.STOPPED), 0);
        x.run(1);
        Check.due("stopped in the last step", x.look(Bench.STOPPED), 1);
    }

    private static void runCountsTraps() {
        Check.sentence("how many of them were traps that did not stop it");
        WindowCore x = Bench.trapping(0);
        Check.due("one trap, then one that stops it", x.run(10), 1);
        Check.due("both are traps", x.look(Bench.TRAP_COUNT), 2);
        WindowCore y = Bench.with(0);
        Check.due("only one that stops it", y.run(10), 0);
        // TRAP's routine comes back with RETURN, so that each round is three steps and one trap.
        WindowCore z = Bench.trapping(Code.opNumber(Code.TRAP, Code.ALWAYS, 0, 0));
        Bench.load(z, 128 << 4, Code.op(Code.JUMP, 0, 17, 0), Code.opNumber(Code.RETURN, 0, 17, 4));
        Check.due("traps of 4998 steps", z.run(4998), 1666);
        Check.due("the next step is a trap", z.run(1), 1);
        Check.due("all of them", z.look(Bench.TRAP_COUNT), 1667);
    }

    private static void runCountsNoOtherAnswers() {
        Check.sentence("how many of them were traps that did not stop it");
        WindowCore x = Bench.with(Code.branch(Code.ALWAYS, true, 0));
        Check.due("done and annulled", x.run(100), 0);
        WindowCore y = Bench.trapping(Code.NOTHING);
        y.request(1);
        Check.due("an interrupt", y.run(1), 1);
    }

    private static void runOfNoNumber() {
        Check.sentence("n is not 0 .. 5000");
        WindowCore x = Bench.stirred();
        Bench.changesNothing("run", x, () -> {
            for (int n : new int[] {-1, 5001, Integer.MAX_VALUE, Integer.MIN_VALUE}) {
                Check.illegalArgument("run(" + n + ")", () -> x.run(n));
            }
        });
    }

    /** What a look shows at first, after one step, after two ... */
    private static void lookAndStep(WindowCore x, int what, int... due) {
        for (int i = 0; i < due.length; i++) {
            Check.due("look(" + what + ") after " + i + " steps", x.look(what), due[i]);
            x.step();
        }
    }

    private static void lookAtAnnulled() {
        Check.sentence("5 1 if the next instruction is annulled, else 0");
        WindowCore x = Bench.with(Code.branch(0, true, 1), 0, Code.branch(1, false, 1));
        lookAndStep(x, 5, 0, 1, 0, 0);
    }

    private static void lookAtStopped() {
        Check.sentence("6 1 if it is stopped, else 0");
        WindowCore x = Bench.trapping(Code.NOTHING);
        lookAndStep(x, 6, 0, 0, 0, 1, 1);
    }

    private static void lookAtSteps() {
        Check.sentence("7 steps (not those of a stopped machine)");
        WindowCore x = Bench.trapping(Code.branch(0, true, 1));
        // Done, annulled, a trap, the one that stops, and two of a stopped machine.
        lookAndStep(x, 7, 0, 1, 2, 3, 4, 4, 4);
        x.run(9);
        Check.due("after a run of a stopped machine", x.look(7), 4);
    }

    private static void lookAtTraps() {
        Check.sentence("8 traps (also the one that stopped it)");
        WindowCore x = Bench.trapping(Code.branch(0, true, 1));
        lookAndStep(x, 8, 0, 0, 0, 1, 2, 2, 2);
        x.control(Bench.STATUS, Bench.TRAPS);
        x.request(15);
        x.step();
        Check.due("an interrupt, too", x.look(8), 3);
    }

    private static void lookAtNoThing() {
        Check.sentence("9 the request. NoSuchElementException: none of these.");
        WindowCore x = Bench.stirred();
        Bench.changesNothing("look", x, () -> {
            Check.due("look(9)", x.look(9), 4);
            for (int what : new int[] {-1, 10, Integer.MAX_VALUE, Integer.MIN_VALUE}) {
                Check.noSuchElement("look(" + what + ")", () -> x.look(what));
            }
        });
    }
}
