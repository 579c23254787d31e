/** Promise 7: control. */
public final class Promise07ControlTest {
    public static void main(String[] args) {
        status();
        others();
        onlyOneThing();
        wakes();
        wrong();
        Check.end();
    }

    private static void status() {
        WindowCore x = new WindowCore();
        Check.due("STATUS at first", x.control(0, -1), Bench.KERNEL);
        Check.due("only what STATUS has", x.control(0, 0), 0x00F00FE7);
        for (int window = 0; window < 32; window++) {
            x.control(0, window);
            Check.due("window " + window + " modulo 8", x.look(0), window % 8);
        }
        for (int bit = 5; bit < 32; bit++) {
            x.control(0, 1 << bit);
            boolean isThere = bit <= 11 || bit >= 20 && bit <= 23;
            Check.due("bit " + bit, x.look(0), isThere ? 1 << bit : 0);
        }
    }

    private static void others() {
        int[] masks = {0, 0xFF, 0xFFFFFFF0, 0xFFFFFFFC, 0xFFFFFFFC};
        for (int what = 1; what <= 4; what++) {
            WindowCore x = new WindowCore();
            int was = what == Bench.NEXT ? 4 : 0;
            Check.due("control(" + what + ") first", x.control(what, -1), was);
            Check.due("control(" + what + ") again", x.control(what, 0x12345677), masks[what]);
            Check.due("control(" + what + ") last", x.control(what, 0), 0x12345677 & masks[what]);
            Check.due("look(" + what + ")", x.look(what), 0);
        }
    }

    private static void onlyOneThing() {
        for (int what = 0; what <= 4; what++) {
            WindowCore x = Bench.stirred();
            int[] before = Bench.seen(x);
            x.control(what, 0x40);
            int[] after = Bench.seen(x);
            for (int i = 0; i < before.length; i++) {
                int due = i == what ? 0x40 : i == Bench.ANNULLED ? 0 : before[i];
                Check.due("control(" + what + "), part " + i, after[i], due);
            }
        }
    }

    private static void wakes() {
        for (int what = 0; what <= 4; what++) {
            WindowCore x = Bench.with(Code.branch(0, true, 1), 0);
            x.step();
            Check.due("annulled", x.look(Bench.ANNULLED), 1);
            x.control(what, x.look(what));
            Check.due("annulled after control(" + what + ")", x.look(Bench.ANNULLED), 0);
            Check.due("the step is not annulled", x.step(), 2);
            Check.due("stopped", x.look(Bench.STOPPED), 1);
            x.control(what, x.look(what));
            Check.due("stopped after control(" + what + ")", x.look(Bench.STOPPED), 0);
            x.put(4, Code.NOTHING);
            Check.due("it goes on", x.step(), 0);
        }
    }

    private static void wrong() {
        WindowCore x = Bench.stirred();
        Bench.changesNothing("control of no thing", x, () -> {
            for (int bad : new int[] {-1, 5, 6, 7, 8, 9, 10, Integer.MAX_VALUE, Integer.MIN_VALUE}) {
                Check.noSuchElement("control(" + bad + ", 0)", () -> x.control(bad, 0));
            }
        });
        WindowCore y = new WindowCore();
        y.step();
        Check.noSuchElement("control(5, 0)", () -> y.control(5, 0));
        Check.due("still stopped", y.look(Bench.STOPPED), 1);
    }
}
