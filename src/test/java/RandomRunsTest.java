import java.util.Random;

/** Whatever memory and registers hold, no call throws by itself, and the state keeps to its fields. */
public final class RandomRunsTest {
    private static final int[] KINDS = {0, 1, 2, 3, 4, 5, 6, 7, 8, 9, 10, 12, 13, 15, 16, 20, 24, 28, 37, 38, 39,
        41, 42, 43, 49, 50, 51, 56, 57, 58, 60, 61};

    public static void main(String[] args) {
        Random random = new Random(20261115);
        for (int i = 0; i < 400; i++) {
            oneRun("run " + i, random);
        }
        Check.end();
    }

    private static void oneRun(String what, Random random) {
        WindowCore x = new WindowCore();
        for (int i = 0; i < 300; i++) {
            x.put(4 * random.nextInt(1024), anInstruction(random));
        }
        for (int i = 0; i < 40; i++) {
            x.set(random.nextInt(8), random.nextInt(32), random.nextInt(4096));
        }
        int steps = 0;
        for (int i = 0; i < 10; i++) {
            x.control(random.nextInt(5), random.nextInt() & 0x00FFFFFF);
            x.control(Bench.PLACE, random.nextInt(4096));
            x.request(random.nextInt(16));
            int trapsBefore = x.look(Bench.TRAP_COUNT);
            int trapped = x.run(300);
            int trapsMore = x.look(Bench.TRAP_COUNT) - trapsBefore - trapped;
            Check.holds(what + ": at most one trap more, that stopped it",
                trapsMore >= 0 && trapsMore <= x.look(Bench.STOPPED));
            steps += 300;
            Check.holds(what + ": steps", x.look(Bench.STEPS) <= steps);
            fields(what, x);
        }
    }

    private static int anInstruction(Random random) {
        int any = random.nextInt();
        return random.nextInt(4) == 0 ? any : any & ~(63 << 19) | KINDS[random.nextInt(KINDS.length)] << 19;
    }

    private static void fields(String what, WindowCore x) {
        Check.due(what + ": STATUS", x.look(Bench.STATUS) & ~0x00F00FE7, 0);
        Check.due(what + ": INVALID", x.look(Bench.INVALID) & ~0xFF, 0);
        Check.due(what + ": TABLE", x.look(Bench.TABLE) & 15, 0);
        Check.due(what + ": PLACE", x.look(Bench.PLACE) & 3, 0);
        Check.due(what + ": NEXT", x.look(Bench.NEXT) & 3, 0);
        Check.due(what + ": register 0", x.register(x.look(Bench.STATUS) & 7, 0), 0);
    }
}
