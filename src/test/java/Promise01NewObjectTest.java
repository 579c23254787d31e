/** Promise 1: at first all is 0, but NEXT is 4, and KERNEL is 1. */
public final class Promise01NewObjectTest {
    public static void main(String[] args) {
        looks();
        registers();
        memory();
        objectsAreApart();
        Check.end();
    }

    private static void looks() {
        WindowCore x = new WindowCore();
        for (int what = 0; what <= 9; what++) {
            int due = what == Bench.STATUS ? Bench.KERNEL : what == Bench.NEXT ? 4 : 0;
            Check.due("look(" + what + ") at first", x.look(what), due);
        }
    }

    private static void registers() {
        WindowCore x = new WindowCore();
        for (int w = 0; w < 8; w++) {
            for (int r = 0; r < 32; r++) {
                Check.due("register(" + w + ", " + r + ") at first", x.register(w, r), 0);
            }
        }
    }

    private static void memory() {
        WindowCore x = null;
        for (int address = 0; address < 4096; address += 4) {
            if (address % 1024 == 0) {
                x = new WindowCore();
            }
            Check.due("word(" + address + ") at first", x.word(address), 0);
        }
    }

    private static void objectsAreApart() {
        WindowCore x = new WindowCore();
        WindowCore y = new WindowCore();
        x.put(8, 1);
        x.set(1, 9, 2);
        x.control(Bench.STATUS, 0);
        x.request(3);
        Check.due("another's word", y.word(8), 0);
        Check.due("another's register", y.register(1, 9), 0);
        Check.due("another's STATUS", y.look(Bench.STATUS), Bench.KERNEL);
        Check.due("another's request", y.look(Bench.REQUEST), 0);
    }
}
