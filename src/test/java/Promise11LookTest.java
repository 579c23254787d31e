/** Promise 11: look. */
public final class Promise11LookTest {
    public static void main(String[] args) {
        controlled();
        annulled();
        counted();
        changesNothing();
        wrong();
        Check.end();
    }

    private static void controlled() {
        WindowCore x = new WindowCore();
        int[] values = {Bench.N | Bench.C | 9 << 8 | Bench.BEFORE | 6, 0xA5, 0x12345670, 0x800, 0x804};
        for (int what = 0; what <= 4; what++) {
            x.control(what, values[what]);
        }
        x.request(11);
        for (int what = 0; what <= 4; what++) {
            Check.due("look(" + what + ")", x.look(what), values[what]);
        }
        Check.due("look(9)", x.look(9), 11);
    }

    private static void annulled() {
        WindowCore x = Bench.with(Code.branch(0, true, 1), 0, Code.NOTHING);
        Check.due("not annulled at first", x.look(5), 0);
        x.step();
        Check.due("annulled", x.look(5), 1);
        x.step();
        Check.due("not annulled then", x.look(5), 0);
    }

    private static void counted() {
        WindowCore x = Bench.trapping(Code.NOTHING, Code.branch(0, true, 1), 0, 0);
        int[] answers = {0, 0, 1, 102, 2, 2, 2};
        int[] steps = {1, 2, 3, 4, 5, 5, 5};
        int[] traps = {0, 0, 0, 1, 2, 2, 2};
        for (int i = 0; i < answers.length; i++) {
            Check.due("step " + i, x.step(), answers[i]);
            Check.due("steps after " + i, x.look(7), steps[i]);
            Check.due("traps after " + i, x.look(8), traps[i]);
            Check.due("stopped after " + i, x.look(6), i >= 4 ? 1 : 0);
        }
        x.control(Bench.PLACE, 0);
        Check.due("counts stay", x.look(7) * 10 + x.look(8), 52);
        Check.due("a step more", x.step(), 0);
        Check.due("steps go on", x.look(7), 6);
    }

    private static void changesNothing() {
        WindowCore x = Bench.stirred();
        Bench.changesNothing("look", x, () -> {
            for (int what = 0; what <= 9; what++) {
                x.look(what);
            }
        });
    }

    private static void wrong() {
        WindowCore x = Bench.stirred();
        Bench.changesNothing("look at no thing", x, () -> {
            for (int bad : new int[] {-1, 10, 11, Integer.MAX_VALUE, Integer.MIN_VALUE}) {
                Check.noSuchElement("look(" + bad + ")", () -> x.look(bad));
            }
        });
    }
}
