/** Promise 9: calls and jumps, one instruction late. */
public final class Promise09JumpTest {
    public static void main(String[] args) {
        calls();
        jumps();
        jumpNotAligned();
        jumpOutOfMemory();
        noPlace();
        goesAround();
        Check.end();
    }

    private static void calls() {
        int[] words = {0, 1, 100, -1, -25, 0x1FFFFFFF, 0x20000000};
        for (int n : words) {
            WindowCore x = new WindowCore();
            x.put(100, Code.call(n));
            Bench.at(x, 100, 104);
            x.control(Bench.STATUS, Bench.KERNEL | 3);
            Check.due("call " + n, x.step(), 0);
            Check.due("register 15", x.register(3, 15), 100);
            Check.due("not of another window", x.register(0, 15), 0);
            Bench.places("call " + n, x, 104, 100 + 4 * n);
        }
    }

    private static void jumps() {
        WindowCore x = Bench.with(Code.opNumber(Code.JUMP, 10, 8, -4), Code.opNumber(Code.ADD, 9, 9, 1));
        x.set(0, 8, 204);
        x.put(200, Code.opNumber(Code.JUMP, 0, 10, 8));
        Check.due("jump", x.step(), 0);
        Bench.places("jump", x, 4, 200);
        x.step();
        Check.due("the slot is done", x.register(0, 9), 1);
        Bench.places("slot", x, 200, 204);
        x.set(0, 10, 300);
        x.step();
        Bench.places("back", x, 204, 308);
        Check.due("register 0", x.register(0, 0), 0);
        WindowCore y = new WindowCore();
        y.put(40, Code.op(Code.JUMP, 8, 8, 9));
        Bench.at(y, 40, 60);
        y.set(0, 8, 100);
        y.set(0, 9, 12);
        y.step();
        Check.due("D becomes PLACE", y.register(0, 8), 40);
        Bench.places("A before D is written", y, 60, 112);
    }

    private static void jumpNotAligned() {
        for (int low = 0; low < 4; low++) {
            WindowCore x = Bench.trapping(Code.opNumber(Code.JUMP, 10, 0, 100 + low));
            x.set(0, 10, 5);
            Check.due("jump to 100 + " + low, x.step(), low == 0 ? 0 : 107);
            Check.due("D", x.register(0, 10), low == 0 ? 0 : 5);
        }
    }

    private static void jumpOutOfMemory() {
        for (int target : new int[] {4096, 0x7FFFFFFC, 0x80000000, -4}) {
            WindowCore x = Bench.trapping(Code.op(Code.JUMP, 10, 8, 0), Code.NOTHING);
            x.set(0, 8, target);
            Check.due("jump to " + target, x.step(), 0);
            Check.due("its slot", x.step(), 0);
            Check.due("no place there", x.step(), 101);
            Check.due("PLACE", x.register(7, 17), target);
            Check.due("NEXT", x.register(7, 18), target + 4);
        }
    }

    private static void noPlace() {
        WindowCore x = Bench.trapping();
        x.put(4092, Code.NOTHING);
        Bench.at(x, 4092, 4096);
        Check.due("the last word", x.step(), 0);
        Check.due("behind it", x.step(), 101);
        Check.due("TABLE", x.look(Bench.TABLE), 16);
    }

    private static void goesAround() {
        WindowCore x = Bench.with(Code.NOTHING);
        Bench.at(x, 0, -4);
        Check.due("NEXT is the last", x.step(), 0);
        Bench.places("32 bits", x, -4, 0);
    }
}
