/** Promise 9: branches, their conditions and the slots that they annul. */
public final class Promise09BranchTest {
    public static void main(String[] args) {
        for (int condition = 0; condition < 16; condition++) {
            for (int flags = 0; flags < 16; flags++) {
                branch(condition, flags, false);
                branch(condition, flags, true);
            }
        }
        distances();
        loop();
        annulledTrapless();
        annulledAlways();
        branchInSlot();
        Check.end();
    }

    static boolean holds(int condition, int flags) {
        boolean c = (flags & 1) != 0;
        boolean v = (flags & 2) != 0;
        boolean z = (flags & 4) != 0;
        boolean n = (flags & 8) != 0;
        boolean[] plain = {false, z, z || n != v, n != v, c || z, c, n, v};
        return condition < 8 ? plain[condition] : !plain[condition - 8];
    }

    private static void branch(int condition, int flags, boolean annul) {
        WindowCore x = Bench.with(Code.branch(condition, annul, 16), Code.opNumber(Code.ADD, 9, 9, 1));
        int status = flags << 20 | Bench.KERNEL;
        x.control(Bench.STATUS, status);
        boolean taken = holds(condition, flags);
        boolean annuls = annul && (!taken || condition == 8);
        String what = "condition " + condition + " of flags " + flags + (annul ? ", annulling" : "");
        Check.due(what, x.step(), 0);
        Bench.places(what, x, 4, taken ? 64 : 8);
        Check.due(what + ": annulled", x.look(Bench.ANNULLED), annuls ? 1 : 0);
        Check.due(what + ": slot", x.step(), annuls ? 1 : 0);
        Check.due(what + ": the slot's work", x.register(0, 9), annuls ? 0 : 1);
        Bench.places(what + ", then", x, taken ? 64 : 8, taken ? 68 : 12);
        Check.due(what + ": annulled no more", x.look(Bench.ANNULLED), 0);
        Check.due(what + ": STATUS", x.look(Bench.STATUS), status);
    }

    private static void distances() {
        for (int words : new int[] {0, 1, -1, -100, 100, 0x1FFFFF, -0x200000}) {
            WindowCore x = new WindowCore();
            x.put(800, Code.branch(Code.ALWAYS, false, words));
            Bench.at(x, 800, 900);
            Check.due("branch by " + words, x.step(), 0);
            Bench.places("branch by " + words, x, 900, 800 + 4 * words);
        }
    }

    private static void loop() {
        WindowCore x = Bench.with(Code.opNumber(Code.SUB + Code.FLAGS, 9, 9, 1), Code.branch(9, false, -1),
            Code.op(Code.ADD, 10, 10, 9), Code.NOTHING);
        x.set(0, 9, 5);
        x.run(15);
        Check.due("the sum of 4 .. 0", x.register(0, 10), 10);
        Bench.places("behind the loop", x, 12, 16);
    }

    private static void annulledTrapless() {
        WindowCore x = Bench.trapping(Code.branch(0, true, 3), 0, Code.NOTHING);
        x.step();
        Check.due("an annulled word that is no instruction", x.step(), 1);
        Check.due("traps", x.look(Bench.TRAP_COUNT), 0);
        WindowCore y = Bench.trapping(Code.branch(0, true, 3));
        Bench.at(y, 0, 4096);
        y.step();
        Check.due("an annulled place that is not in memory", y.step(), 1);
        Bench.places("behind it", y, 4100, 4104);
        Check.due("then no place", y.step(), 101);
    }

    private static void annulledAlways() {
        WindowCore x = Bench.with(Code.branch(Code.ALWAYS, true, 4), Code.opNumber(Code.ADD, 9, 0, 1), 0, 0,
            Code.opNumber(Code.ADD, 10, 0, 1));
        Check.due("run", x.run(3), 0);
        Check.due("the slot is not done", x.register(0, 9), 0);
        Check.due("the target is done", x.register(0, 10), 1);
        Bench.places("behind the target", x, 20, 24);
    }

    private static void branchInSlot() {
        WindowCore x = Bench.with(Code.branch(Code.ALWAYS, false, 10), Code.branch(Code.ALWAYS, false, 20));
        x.put(40, Code.opNumber(Code.ADD, 9, 9, 1));
        x.put(84, Code.opNumber(Code.ADD, 9, 9, 16));
        x.run(3);
        Check.due("one of the first target", x.register(0, 9), 1);
        Bench.places("then the second", x, 84, 88);
        x.run(1);
        Check.due("both", x.register(0, 9), 17);
    }
}
