/** Promise 9: STATUS, INVALID and TABLE as instructions read and write them. */
public final class Promise09ControlWordsTest {
    public static void main(String[] args) {
        reading();
        writingStatus();
        writingInvalid();
        writingTable();
        notKernel();
        Check.end();
    }

    private static void reading() {
        WindowCore x = Bench.with(Code.op(Code.READ_STATUS, 9, 0, 0), Code.op(Code.READ_INVALID, 10, 0, 0),
            Code.op(Code.READ_TABLE, 11, 0, 0), Code.op(Code.READ_STATUS, 0, 0, 0));
        int status = Bench.V | 7 << 8 | Bench.KERNEL | Bench.BEFORE | 2;
        x.control(Bench.STATUS, status);
        x.control(Bench.INVALID, 0x81);
        x.control(Bench.TABLE, 0x76543210);
        for (int i = 0; i < 4; i++) {
            Check.due("reading " + i, x.step(), 0);
        }
        Check.due("STATUS", x.register(2, 9), status);
        Check.due("INVALID", x.register(2, 10), 0x81);
        Check.due("TABLE", x.register(2, 11), 0x76543210);
        Check.due("register 0", x.register(2, 0), 0);
    }

    private static void writingStatus() {
        for (int window = 0; window < 32; window++) {
            WindowCore x = Bench.trapping(Code.op(Code.WRITE_STATUS, 31, 8, 9));
            x.set(0, 8, -1);
            x.set(0, 9, 31 ^ window);
            Check.due("STATUS with window " + window, x.step(), window < 8 ? 0 : 102);
            if (window < 8) {
                Check.due("all that STATUS has", x.look(Bench.STATUS), 0x00F00FE0 | window);
                Bench.places("written", x, 4, 8);
            }
        }
        WindowCore y = Bench.with(Code.opNumber(Code.WRITE_STATUS, 0, 0, -1 ^ 31));
        y.step();
        Check.due("a number with sign", y.look(Bench.STATUS), 0x00F00FE0);
        WindowCore z = Bench.with(Code.opNumber(Code.WRITE_STATUS, 0, 0, 0));
        z.step();
        Check.due("KERNEL is given up", z.look(Bench.STATUS), 0);
    }

    private static void writingInvalid() {
        WindowCore x = Bench.with(Code.op(Code.WRITE_INVALID, 0, 8, 9));
        x.set(0, 8, 0xFFFFFF0F);
        x.set(0, 9, 0x00000033);
        Check.due("writing INVALID", x.step(), 0);
        Check.due("INVALID", x.look(Bench.INVALID), 0x3C);
        Check.due("STATUS", x.look(Bench.STATUS), Bench.KERNEL);
    }

    private static void writingTable() {
        WindowCore x = Bench.with(Code.op(Code.WRITE_TABLE, 0, 8, 9));
        x.control(Bench.TABLE, 0x12345AB0);
        x.set(0, 8, 0xFEDCBFFF);
        x.set(0, 9, 0x0000F000);
        Check.due("writing TABLE", x.step(), 0);
        Check.due("its type stays", x.look(Bench.TABLE), 0xFEDC4AB0);
    }

    private static void notKernel() {
        int[] kinds = {41, 42, 43, 49, 50, 51};
        for (int kind : kinds) {
            WindowCore x = Bench.with(Code.opNumber(kind, 9, 0, 7));
            x.control(Bench.STATUS, Bench.TRAPS);
            x.control(Bench.INVALID, 0x55);
            x.set(0, 9, 3);
            Check.due("kind " + kind + " without KERNEL", x.step(), 103);
            Check.due("register 9", x.register(0, 9), 3);
            Check.due("INVALID", x.look(Bench.INVALID), 0x55);
            Check.due("TABLE", x.look(Bench.TABLE), 0x30);
            WindowCore y = Bench.with(Code.opNumber(kind, 9, 0, 7));
            y.control(Bench.STATUS, 0);
            Check.due("kind " + kind + " without KERNEL and TRAPS", y.step(), 2);
        }
        WindowCore z = Bench.with(Code.opNumber(Code.WRITE_STATUS, 0, 0, 8));
        z.control(Bench.STATUS, Bench.TRAPS);
        Check.due("type 2 is before type 3", z.step(), 102);
    }
}
