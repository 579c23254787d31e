/** Promise 8: request, and the interrupts that it makes. */
public final class Promise08RequestTest {
    public static void main(String[] args) {
        ordinary();
        againstLevels();
        withoutTraps();
        staysUntilTakenBack();
        aheadOfInstruction();
        wrong();
        Check.end();
    }

    private static void ordinary() {
        WindowCore x = new WindowCore();
        int was = 0;
        for (int level : new int[] {0, 15, 1, 14, 7, 0}) {
            Check.due("request(" + level + ")", x.request(level), was);
            Check.due("look(9)", x.look(Bench.REQUEST), level);
            was = level;
        }
    }

    private static void againstLevels() {
        for (int level = 0; level < 16; level++) {
            for (int request = 0; request < 16; request++) {
                WindowCore x = Bench.with(Code.NOTHING);
                x.control(Bench.STATUS, level << 8 | Bench.TRAPS);
                x.request(request);
                boolean comes = request == 15 || request > level;
                Check.due("request " + request + " at level " + level, x.step(), comes ? 116 + request : 0);
            }
        }
    }

    private static void withoutTraps() {
        WindowCore x = Bench.with(Code.NOTHING);
        x.request(15);
        Check.due("request without TRAPS", x.step(), 0);
        Check.due("stopped", x.look(Bench.STOPPED), 0);
    }

    private static void staysUntilTakenBack() {
        WindowCore x = Bench.trapping(Code.NOTHING);
        x.request(6);
        Check.due("first", x.step(), 122);
        Check.due("still requested", x.look(Bench.REQUEST), 6);
        x.control(Bench.STATUS, Bench.TRAPS);
        Check.due("second", x.step(), 122);
        x.control(Bench.STATUS, Bench.TRAPS);
        Bench.at(x, 0, 4);
        x.request(0);
        Check.due("taken back", x.step(), 0);
    }

    private static void aheadOfInstruction() {
        WindowCore x = Bench.trapping(Code.opNumber(Code.ADD, 9, 0, 1));
        x.request(1);
        Check.due("ahead of an instruction", x.step(), 117);
        Check.due("it is not done", x.register(0, 9), 0);
        Check.due("where it was", x.register(7, 17), 0);
        Check.due("what lay behind", x.register(7, 18), 4);
        WindowCore y = Bench.trapping(0);
        y.request(2);
        Check.due("ahead of a trap", y.step(), 118);
        WindowCore z = Bench.trapping();
        z.control(Bench.PLACE, 4096);
        z.request(2);
        Check.due("ahead of no memory", z.step(), 118);
        WindowCore a = Bench.trapping(Code.branch(0, true, 9), 0, Code.NOTHING);
        a.step();
        a.request(15);
        Check.due("an annulled one goes first", a.step(), 1);
        Check.due("then the interrupt", a.step(), 131);
        Check.due("PLACE behind the annulled one", a.register(7, 17), 8);
    }

    private static void wrong() {
        WindowCore x = Bench.stirred();
        Bench.changesNothing("request of no level", x, () -> {
            for (int bad : new int[] {-1, 16, 31, Integer.MAX_VALUE, Integer.MIN_VALUE}) {
                Check.illegalArgument("request(" + bad + ")", () -> x.request(bad));
            }
        });
    }
}
