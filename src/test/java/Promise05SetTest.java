/** Promise 5: set. */
public final class Promise05SetTest {
    public static void main(String[] args) {
        ordinary();
        zero();
        notTheWindowOfStatus();
        wrong();
        Check.end();
    }

    private static void ordinary() {
        WindowCore x = new WindowCore();
        for (int w = 0; w < 8; w++) {
            for (int r = 8; r < 24; r++) {
                Check.due("set(" + w + ", " + r + ") first", x.set(w, r, 1000 * w + r), 0);
            }
        }
        for (int w = 0; w < 8; w++) {
            for (int r = 8; r < 24; r++) {
                Check.due("set(" + w + ", " + r + ") again", x.set(w, r, -r), 1000 * w + r);
            }
        }
    }

    private static void zero() {
        WindowCore x = new WindowCore();
        Check.due("set of register 0", x.set(0, 0, 5), 0);
        Check.due("set of register 0 again", x.set(7, 0, 6), 0);
        Check.due("register 0", x.register(3, 0), 0);
    }

    private static void notTheWindowOfStatus() {
        WindowCore x = new WindowCore();
        x.control(Bench.STATUS, Bench.KERNEL | 5);
        x.set(2, 16, 9);
        Check.due("the local of window 2", x.register(2, 16), 9);
        Check.due("the local of window 5", x.register(5, 16), 0);
    }

    private static void wrong() {
        WindowCore x = Bench.stirred();
        Bench.changesNothing("set of what is not there", x, () -> {
            for (int bad : new int[] {-1, 8, 31, 32, Integer.MAX_VALUE, Integer.MIN_VALUE}) {
                Check.noSuchElement("set(" + bad + ", 9, 1)", () -> x.set(bad, 9, 1));
                Check.noSuchElement("set(" + bad + ", 0, 1)", () -> x.set(bad, 0, 1));
            }
            for (int bad : new int[] {-1, 32, 33, 64, Integer.MAX_VALUE, Integer.MIN_VALUE}) {
                Check.noSuchElement("set(0, " + bad + ", 1)", () -> x.set(0, bad, 1));
                Check.noSuchElement("set(7, " + bad + ", 1)", () -> x.set(7, bad, 1));
            }
        });
    }
}
