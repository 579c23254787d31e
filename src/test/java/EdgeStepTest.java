/** Edges of the terms: a stopped machine, an annulled instruction, a request. */
public final class EdgeStepTest {
    public static void main(String[] args) {
        stoppedDoesNothing();
        stoppedHasNoInterrupt();
        annulledGoesOn();
        annulledDoesNothingElse();
        annulledGoesAheadOfInterrupt();
        requestAboveLevel();
        requestOf15();
        requestNeedsTraps();
        interruptIsAheadOfTheInstruction();
        interruptIsAheadOfOtherTraps();
        Check.end();
    }

    private static void stoppedDoesNothing() {
        Check.sentence("if the machine is STOPPED, nothing");
        WindowCore x = Bench.filled(Bench.KERNEL, 0);
        x.step();
        x.put(256, Code.opNumber(Code.ADD, 9, 9, 1));
        Bench.changesNothing("steps of a stopped machine", x, () -> {
            Check.due("a step", x.step(), 2);
            Check.due("a step more", x.step(), 2);
            Check.due("run(5000)", x.run(5000), 0);
        });
    }

    private static void stoppedHasNoInterrupt() {
        Check.sentence("if the machine is STOPPED, nothing");
        // TRAPS must be 0 for a stop, and control wakes the machine, so only a request can come later.
        WindowCore x = Bench.with(0);
        x.step();
        x.request(15);
        Check.due("a step with a request", x.step(), 2);
        Check.due("traps", x.look(Bench.TRAP_COUNT), 1);
        Check.due("PLACE", x.look(Bench.PLACE), 0);
    }

    /** A machine whose next instruction, at 256, is annulled. */
    private static WindowCore annulling(int status, int code) {
        WindowCore x = Bench.filled(status, code);
        x.put(0, Code.branch(0, true, 9));
        Bench.at(x, 0, 256);
        x.step();
        return x;
    }

    private static void annulledGoesOn() {
        Check.sentence("If the instruction is annulled, it goes on as all others");
        for (int next : new int[] {0, 256, 4092, 4096, -4}) {
            WindowCore x = Bench.trapping(Code.branch(0, true, 9));
            x.control(Bench.NEXT, next);
            x.step();
            Check.due("annulled at " + next, x.step(), 1);
            Bench.places("behind " + next, x, next + 4, next + 8);
            Check.due("annulled no more", x.look(Bench.ANNULLED), 0);
        }
        WindowCore y = Bench.with(Code.branch(Code.ALWAYS, true, 100), 0);
        y.run(2);
        Bench.places("an annulled slot of a branch that is taken", y, 400, 404);
    }

    private static void annulledDoesNothingElse() {
        Check.sentence("and nothing else is done");
        int[] codes = {0, Code.call(100), Code.branch(Code.ALWAYS, true, 100), Code.op(Code.ADD + 16, 9, 10, 11),
            Code.moveNumber(Code.STORE_WORD, 9, 0, 512), Code.moveNumber(Code.WORD, 9, 0, 513),
            Code.op(Code.SAVE, 9, 8, 8), Code.opNumber(Code.TRAP, Code.ALWAYS, 0, 1),
            Code.opNumber(Code.WRITE_INVALID, 0, 0, -1), Code.opNumber(Code.RETURN, 0, 0, 1)};
        for (int code : codes) {
            WindowCore x = annulling(Bench.KERNEL, code);
            Bench.changesOnly("annulled word " + code, x, () -> Check.due("annulled word " + code, x.step(), 1),
                Bench.PLACE, Bench.NEXT, Bench.ANNULLED, Bench.STEPS);
            Bench.places("annulled word " + code, x, 260, 264);
        }
    }

    private static void annulledGoesAheadOfInterrupt() {
        Check.sentence("Else, if TRAPS is 1 and the REQUEST is 15 or above LEVEL");
        WindowCore x = annulling(Bench.KERNEL | Bench.TRAPS, Code.NOTHING);
        x.request(15);
        Check.due("the annulled one", x.step(), 1);
        Check.due("then the interrupt", x.step(), 131);
        Check.due("its PLACE", x.register(7, 17), 260);
        Check.due("its NEXT", x.register(7, 18), 264);
    }

    private static int answer(int status, int request) {
        WindowCore x = Bench.with(Code.NOTHING);
        x.control(Bench.STATUS, status);
        x.request(request);
        return x.step();
    }

    private static void requestAboveLevel() {
        Check.sentence("the REQUEST is 15 or above LEVEL, there is the trap 16 + REQUEST");
        for (int level = 0; level < 15; level++) {
            int status = Bench.TRAPS | level << 8;
            Check.due("no request at " + level, answer(status, 0), 0);
            Check.due("as high as " + level, answer(status, level), 0);
            Check.due("one above " + level, answer(status, level + 1), 100 + 16 + level + 1);
            Check.due("14 at " + level, answer(status, 14), level < 14 ? 130 : 0);
        }
        Check.due("14 at 15", answer(Bench.TRAPS | 15 << 8, 14), 0);
    }

    private static void requestOf15() {
        Check.sentence("the REQUEST is 15 or above LEVEL, there is the trap 16 + REQUEST");
        for (int level = 0; level < 16; level++) {
            Check.due("15 at " + level, answer(Bench.TRAPS | level << 8, 15), 131);
        }
    }

    private static void requestNeedsTraps() {
        Check.sentence("if TRAPS is 1");
        for (int request = 0; request < 16; request++) {
            Check.due("request " + request + " with TRAPS 0", answer(Bench.KERNEL | Bench.BEFORE, request), 0);
        }
    }

    private static void interruptIsAheadOfTheInstruction() {
        Check.sentence("ahead of the instruction");
        WindowCore x = Bench.filled(Bench.TRAPS | 3, Code.opNumber(Code.ADD + 16, 9, 9, 1));
        x.request(1);
        Bench.changesOnly("interrupt", x, () -> Check.due("interrupt", x.step(), 117), Bench.STATUS, Bench.TABLE,
            Bench.PLACE, Bench.NEXT, Bench.STEPS, Bench.TRAP_COUNT, Bench.part(2, 17), Bench.part(2, 18));
        Check.due("PLACE is the instruction's", x.register(2, 17), 256);
        Check.due("NEXT", x.register(2, 18), 260);
        Check.due("the type", x.look(Bench.TABLE), 17 << 4);
    }

    private static void interruptIsAheadOfOtherTraps() {
        Check.sentence("Else the instruction is done, or there is a trap");
        int[] codes = {0, Code.op(Code.READ_STATUS, 9, 0, 0), Code.moveNumber(Code.WORD, 9, 0, 1),
            Code.opNumber(Code.TRAP, Code.ALWAYS, 0, 9), Code.opNumber(Code.RETURN, 0, 0, 8)};
        for (int code : codes) {
            WindowCore x = Bench.with(code);
            x.control(Bench.STATUS, Bench.TRAPS);
            x.request(2);
            Check.due("word " + code, x.step(), 118);
        }
        WindowCore y = Bench.trapping();
        y.control(Bench.PLACE, 4096);
        y.request(3);
        Check.due("PLACE not in memory", y.step(), 119);
    }
}
