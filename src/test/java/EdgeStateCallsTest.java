/** Edges of promises 2 to 8: the calls that set and show the state. */
public final class EdgeStateCallsTest {
    private static final int[] NO_ADDRESSES = {1, 2, 3, 4093, 4094, 4095, 4096, 8192, -1, -2, -3, -4, -4096, 0x7FFFFFFC,
        Integer.MAX_VALUE, Integer.MIN_VALUE, Integer.MIN_VALUE + 1};
    private static final int[] NO_WINDOWS = {-1, 8, 15, 31, 32, Integer.MAX_VALUE, Integer.MIN_VALUE};
    private static final int[] NO_REGISTERS = {-1, 32, 33, Integer.MAX_VALUE, Integer.MIN_VALUE};

    public static void main(String[] args) {
        resetKeepsMemory();
        resetOfAStoppedMachine();
        resetOfAnAnnulledOne();
        putAtTheEnds();
        putNowhere();
        wordNowhere();
        setAtTheEnds();
        setNowhere();
        registerNowhere();
        controlOfStatus();
        controlOfInvalid();
        controlOfTable();
        controlOfPlaceAndNext();
        controlEndsAnnulling();
        controlEndsAStop();
        controlOfNoThing();
        requestAtTheEnds();
        requestOfNoLevel();
        refusedByAStoppedMachine();
        Check.end();
    }

    private static void resetKeepsMemory() {
        Check.sentence("All but memory as at first.");
        WindowCore x = Bench.stirred();
        x.put(4092, 77);
        int first = x.word(0);
        x.reset();
        Check.due("the first word", x.word(0), first);
        Check.due("the last word", x.word(4092), 77);
        int[] seen = Bench.seen(x);
        int[] due = Bench.seen(new WindowCore());
        for (int i = 0; i < Bench.partOfWord(0); i++) {
            Check.due("part " + i, seen[i], due[i]);
        }
    }

    private static void resetOfAStoppedMachine() {
        Check.sentence("All but memory as at first.");
        WindowCore x = Bench.with(0);
        x.step();
        x.reset();
        Check.due("stopped", x.look(Bench.STOPPED), 0);
        Check.due("steps", x.look(Bench.STEPS), 0);
        Check.due("traps", x.look(Bench.TRAP_COUNT), 0);
        Check.due("a step", x.step(), 2);
        Check.due("a step counts again", x.look(Bench.STEPS), 1);
    }

    private static void resetOfAnAnnulledOne() {
        Check.sentence("All but memory as at first.");
        WindowCore x = Bench.with(Code.branch(0, true, 1), 0);
        x.step();
        x.request(9);
        x.reset();
        Check.due("annulled", x.look(Bench.ANNULLED), 0);
        Check.due("the request", x.look(Bench.REQUEST), 0);
        Check.due("the branch is done again", x.step(), 0);
    }

    private static void putAtTheEnds() {
        Check.sentence("A word of memory becomes v: what it was.");
        WindowCore x = new WindowCore();
        for (int address : new int[] {0, 4, 4088, 4092}) {
            Check.due("first at " + address, x.put(address, -address - 1), 0);
            Check.due("again at " + address, x.put(address, address + 1), -address - 1);
        }
        for (int address : new int[] {0, 4, 4088, 4092}) {
            Check.due("word at " + address, x.word(address), address + 1);
        }
        Check.due("a word between", x.word(8), 0);
        Check.due("a word between", x.word(4084), 0);
    }

    private static void putNowhere() {
        Check.sentence("address is no multiple of 4, or not in memory");
        WindowCore x = Bench.stirred();
        Bench.changesNothing("put", x, () -> {
            for (int address : NO_ADDRESSES) {
                Check.noSuchElement("put(" + address + ", 9)", () -> x.put(address, 9));
            }
        });
        Check.due("the last word", x.word(4092), 0);
    }

    private static void wordNowhere() {
        Check.sentence("A word of memory. NoSuchElementException.");
        WindowCore x = Bench.stirred();
        Bench.changesNothing("word", x, () -> {
            for (int address : NO_ADDRESSES) {
                Check.noSuchElement("word(" + address + ")", () -> x.word(address));
            }
        });
    }

    private static void setAtTheEnds() {
        Check.sentence("A register of a window becomes v: what it was.");
        WindowCore x = new WindowCore();
        for (int window : new int[] {0, 7}) {
            for (int register : new int[] {1, 16, 23}) {
                x.set(window, register, 5);
                Check.due("again", x.set(window, register, 0x80000000), 5);
                Check.due("and again", x.set(window, register, 0), 0x80000000);
            }
            Check.due("register 0", x.set(window, 0, 5), 0);
            Check.due("register 31 first", x.set(window, 31, 6), 0);
            Check.due("register 31 again", x.set(window, 31, 7), 6);
        }
    }

    private static void setNowhere() {
        Check.sentence("window, or register is not 0 .. 31");
        WindowCore x = Bench.stirred();
        Bench.changesNothing("set", x, () -> {
            for (int window : NO_WINDOWS) {
                Check.noSuchElement("set(" + window + ", 1, 9)", () -> x.set(window, 1, 9));
                Check.noSuchElement("set(" + window + ", 16, 9)", () -> x.set(window, 16, 9));
            }
            for (int register : NO_REGISTERS) {
                Check.noSuchElement("set(0, " + register + ", 9)", () -> x.set(0, register, 9));
                Check.noSuchElement("set(7, " + register + ", 9)", () -> x.set(7, register, 9));
            }
        });
        Check.noSuchElement("set(8, 32, 9)", () -> x.set(8, 32, 9));
    }

    private static void registerNowhere() {
        Check.sentence("A register of a window. NoSuchElementException.");
        WindowCore x = Bench.stirred();
        Bench.changesNothing("register", x, () -> {
            for (int window : NO_WINDOWS) {
                Check.noSuchElement("register(" + window + ", 1)", () -> x.register(window, 1));
                Check.noSuchElement("register(" + window + ", 16)", () -> x.register(window, 16));
            }
            for (int register : NO_REGISTERS) {
                Check.noSuchElement("register(0, " + register + ")", () -> x.register(0, register));
                Check.noSuchElement("register(7, " + register + ")", () -> x.register(7, register));
            }
        });
    }

    private static void becomes(int what, int v, int due) {
        WindowCore x = Bench.stirred();
        int was = x.look(what);
        String call = "control(" + what + ", " + v + ")";
        Bench.changesOnly(call, x, () -> Check.due(call, x.control(what, v), was), what, Bench.ANNULLED);
        Check.due(call + ", then look", x.look(what), due);
    }

    private static void controlOfStatus() {
        Check.sentence("0 STATUS (only what it has; its window modulo 8)");
        becomes(0, -1, 0x00F00FE7);
        becomes(0, 0, 0);
        becomes(0, ~0x00F00FFF, 0);
        for (int window : new int[] {7, 8, 9, 15, 16, 23, 24, 31}) {
            becomes(0, Bench.KERNEL | window, Bench.KERNEL | window % 8);
        }
        becomes(0, 32, Bench.TRAPS);
    }

    private static void controlOfInvalid() {
        Check.sentence("1 INVALID (its 8 lowest bits)");
        becomes(1, -1, 255);
        becomes(1, 255, 255);
        becomes(1, 256, 0);
        becomes(1, 0x80000180, 128);
    }

    private static void controlOfTable() {
        Check.sentence("2 TABLE (its bits 4 .. 31)");
        becomes(2, -1, -16);
        becomes(2, 15, 0);
        becomes(2, 16, 16);
        becomes(2, 31, 16);
        becomes(2, 0x80000FFF, 0x80000FF0);
    }

    private static void controlOfPlaceAndNext() {
        Check.sentence("3 PLACE, 4 NEXT (both without their two lowest bits) becomes v");
        for (int what : new int[] {3, 4}) {
            becomes(what, -1, -4);
            becomes(what, 3, 0);
            becomes(what, 4, 4);
            becomes(what, 4095, 4092);
            becomes(what, 4099, 4096);
            becomes(what, 0x80000001, 0x80000000);
        }
    }

    private static void controlEndsAnnulling() {
        Check.sentence("nothing is annulled then");
        for (int what = 0; what <= 4; what++) {
            WindowCore x = Bench.with(Code.branch(0, true, 1), Code.opNumber(Code.ADD, 9, 9, 1));
            x.step();
            x.control(what, x.look(what));
            Check.due("annulled after control(" + what + ")", x.look(Bench.ANNULLED), 0);
            Check.due("the next instruction", x.step(), 0);
            Check.due("it is done", x.register(0, 9), 1);
        }
    }

    private static void controlEndsAStop() {
        Check.sentence("and the machine is not stopped");
        for (int what = 0; what <= 4; what++) {
            WindowCore x = Bench.with(0);
            x.step();
            x.put(0, Code.NOTHING);
            x.control(what, x.look(what));
            Check.due("stopped after control(" + what + ")", x.look(Bench.STOPPED), 0);
            Check.due("a step", x.step(), 0);
            Check.due("steps", x.look(Bench.STEPS), 2);
            Check.due("traps", x.look(Bench.TRAP_COUNT), 1);
        }
    }

    private static void controlOfNoThing() {
        Check.sentence("what is none of these");
        WindowCore x = Bench.stirred();
        Bench.changesNothing("control", x, () -> {
            for (int what : new int[] {-1, 5, 6, 7, 8, 9, 10, Integer.MAX_VALUE, Integer.MIN_VALUE}) {
                Check.noSuchElement("control(" + what + ", 0)", () -> x.control(what, 0));
            }
        });
        Check.due("the next instruction is still annulled", x.step(), 1);
    }

    private static void requestAtTheEnds() {
        Check.sentence("The request: what it was.");
        WindowCore x = Bench.stirred();
        Bench.changesOnly("request", x, () -> {
            Check.due("request(0)", x.request(0), 4);
            Check.due("request(15)", x.request(15), 0);
            Check.due("request(14)", x.request(14), 15);
        }, Bench.REQUEST);
        Check.due("look(9)", x.look(Bench.REQUEST), 14);
    }

    private static void requestOfNoLevel() {
        Check.sentence("it is not 0 .. 15");
        WindowCore x = Bench.stirred();
        Bench.changesNothing("request", x, () -> {
            for (int level : new int[] {-1, 16, 17, Integer.MAX_VALUE, Integer.MIN_VALUE}) {
                Check.illegalArgument("request(" + level + ")", () -> x.request(level));
            }
        });
    }

    private static void refusedByAStoppedMachine() {
        Check.sentence("Such a call changes nothing.");
        WindowCore x = Bench.filled(Bench.KERNEL, 0);
        x.step();
        Bench.changesNothing("refused calls", x, () -> {
            Check.noSuchElement("put(2, 9)", () -> x.put(2, 9));
            Check.noSuchElement("word(4096)", () -> x.word(4096));
            Check.noSuchElement("set(8, 9, 9)", () -> x.set(8, 9, 9));
            Check.noSuchElement("register(0, 32)", () -> x.register(0, 32));
            Check.noSuchElement("control(5, 0)", () -> x.control(5, 0));
            Check.illegalArgument("request(16)", () -> x.request(16));
            Check.illegalArgument("run(5001)", () -> x.run(5001));
            Check.noSuchElement("look(10)", () -> x.look(10));
        });
    }
}
