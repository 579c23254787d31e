/** Promise 6: register, and how the windows overlap. */
public final class Promise06RegisterTest {
    public static void main(String[] args) {
        sharedByAll();
        insAreOutsOfNext();
        localsAreApart();
        wrong();
        Check.end();
    }

    private static void sharedByAll() {
        WindowCore x = new WindowCore();
        for (int r = 1; r < 8; r++) {
            x.set(r, r, 50 + r);
        }
        for (int w = 0; w < 8; w++) {
            Check.due("register 0 of " + w, x.register(w, 0), 0);
            for (int r = 1; r < 8; r++) {
                Check.due("register " + r + " of " + w, x.register(w, r), 50 + r);
            }
        }
    }

    private static void insAreOutsOfNext() {
        WindowCore x = new WindowCore();
        for (int w = 0; w < 8; w++) {
            for (int i = 0; i < 8; i++) {
                x.set(w, 8 + i, 100 * w + i);
            }
        }
        for (int w = 0; w < 8; w++) {
            for (int i = 0; i < 8; i++) {
                Check.due("out " + i + " of " + w, x.register(w, 8 + i), 100 * w + i);
                Check.due("in " + i + " of " + w, x.register(w, 24 + i), 100 * ((w + 1) % 8) + i);
            }
        }
        x.set(7, 24, -1);
        Check.due("ins of 7 are outs of 0", x.register(0, 8), -1);
        x.set(2, 31, -2);
        Check.due("ins of 2 are outs of 3", x.register(3, 15), -2);
    }

    private static void localsAreApart() {
        WindowCore x = new WindowCore();
        for (int w = 0; w < 8; w++) {
            for (int r = 16; r < 24; r++) {
                x.set(w, r, 100 * w + r);
            }
        }
        for (int w = 0; w < 8; w++) {
            for (int r = 8; r < 32; r++) {
                boolean isLocal = r >= 16 && r < 24;
                Check.due("register " + r + " of " + w, x.register(w, r), isLocal ? 100 * w + r : 0);
            }
        }
    }

    private static void wrong() {
        WindowCore x = Bench.stirred();
        Bench.changesNothing("register of what is not there", x, () -> {
            for (int bad : new int[] {-1, 8, 9, 31, Integer.MAX_VALUE, Integer.MIN_VALUE}) {
                Check.noSuchElement("register(" + bad + ", 9)", () -> x.register(bad, 9));
                Check.noSuchElement("register(" + bad + ", 0)", () -> x.register(bad, 0));
            }
            for (int bad : new int[] {-1, 32, 40, Integer.MAX_VALUE, Integer.MIN_VALUE}) {
                Check.noSuchElement("register(7, " + bad + ")", () -> x.register(7, bad));
            }
        });
    }
}
