/** Edges of the terms: the conditions, and slots that are annulled or not. */
public final class EdgeBranchTest {
    private static final int C = Bench.C;
    private static final int V = Bench.V;
    private static final int Z = Bench.Z;
    private static final int N = Bench.N;

    public static void main(String[] args) {
        never();
        eachCondition();
        oppositeConditions();
        trapHasNoBit29();
        annulledIfItDoesNotHold();
        annulledIfAlways();
        notAnnulledWithoutBit29();
        onlyTheNextIsAnnulled();
        Check.end();
    }

    private static boolean taken(int condition, int flags) {
        WindowCore x = Bench.with(Code.branch(condition, false, 100));
        x.control(Bench.STATUS, flags);
        Check.due("branch", x.step(), 0);
        return x.look(Bench.NEXT) == 400;
    }

    private static boolean trapped(int condition, int flags) {
        WindowCore x = Bench.with(Code.opNumber(Code.TRAP, condition, 0, 1));
        x.control(Bench.STATUS, flags | Bench.TRAPS);
        return x.step() == 229;
    }

    /** A condition holds just with these flags, for branches and for TRAP. */
    private static void holdsWith(int condition, int... flags) {
        for (int all = 0; all < 16; all++) {
            boolean due = false;
            for (int one : flags) {
                due |= one == all << 20;
            }
            String what = "condition " + condition + " with flags " + all;
            Check.holds(what, taken(condition, all << 20) == due);
            Check.holds(what + ", TRAP", trapped(condition, all << 20) == due);
        }
    }

    private static void never() {
        Check.sentence("0 never");
        holdsWith(0);
    }

    private static void eachCondition() {
        Check.sentence("1 Z");
        holdsWith(1, Z, Z | C, Z | V, Z | V | C, N | Z, N | Z | C, N | Z | V, N | Z | V | C);
        Check.sentence("2 Z or N is not V");
        holdsWith(2, Z, Z | C, Z | V, Z | V | C, N | Z, N | Z | C, N | Z | V, N | Z | V | C, N, N | C, V, V | C);
        Check.sentence("3 N is not V");
        holdsWith(3, N, N | C, N | Z, N | Z | C, V, V | C, Z | V, Z | V | C);
        Check.sentence("4 C or Z");
        holdsWith(4, C, C | V, C | N, C | N | V, Z, Z | C, Z | V, Z | V | C, N | Z, N | Z | C, N | Z | V,
            N | Z | V | C);
        Check.sentence("5 C");
        holdsWith(5, C, C | V, C | Z, C | Z | V, C | N, C | N | V, C | N | Z, C | N | Z | V);
        Check.sentence("6 N");
        holdsWith(6, N, N | C, N | V, N | V | C, N | Z, N | Z | C, N | Z | V, N | Z | V | C);
        Check.sentence("7 V");
        holdsWith(7, V, V | C, V | Z, V | Z | C, V | N, V | N | C, V | N | Z, V | N | Z | C);
    }

    private static void oppositeConditions() {
        Check.sentence("8 .. 15 that the one less by 8 does not hold");
        for (int condition = 8; condition < 16; condition++) {
            for (int all = 0; all < 16; all++) {
                String what = "condition " + condition + " with flags " + all;
                Check.holds(what, taken(condition, all << 20) != taken(condition - 8, all << 20));
                Check.holds(what + ", TRAP", trapped(condition, all << 20) != trapped(condition - 8, all << 20));
            }
        }
    }

    private static void trapHasNoBit29() {
        Check.sentence("58 TRAP, if the condition of bits 25 .. 28 holds");
        Check.holds("8 with bit 29", trapped(16 + 8, 0));
        Check.holds("0 with bit 29", !trapped(16, 0));
        WindowCore x = Bench.trapping(Code.opNumber(Code.TRAP, 16, 0, 1));
        x.step();
        Check.due("TRAP annuls nothing", x.look(Bench.ANNULLED), 0);
        Bench.places("a TRAP that does not hold", x, 4, 8);
    }

    private static void slot(String what, int condition, boolean bit29, int flags, boolean annulled) {
        WindowCore x = Bench.with(Code.branch(condition, bit29, 100), Code.opNumber(Code.ADD, 9, 0, 1));
        x.control(Bench.STATUS, flags);
        x.step();
        Check.due(what + ": look(5)", x.look(Bench.ANNULLED), annulled ? 1 : 0);
        Check.due(what + ": the slot", x.step(), annulled ? 1 : 0);
        Check.due(what + ": its work", x.register(0, 9), annulled ? 0 : 1);
    }

    private static void annulledIfItDoesNotHold() {
        Check.sentence("if it does not hold, or is 8, and bit 29 is 1, the next instruction is ANNULLED");
        slot("0 never holds", 0, true, C | V | Z | N, true);
        for (int condition : new int[] {1, 2, 3, 4, 5, 6, 7}) {
            slot(condition + " that does not hold", condition, true, 0, true);
            slot(condition + " that holds", condition, true, condition == 3 ? N : C | V | Z | N, false);
        }
        for (int condition : new int[] {9, 10, 11, 12, 13, 14, 15}) {
            slot(condition + " that holds", condition, true, 0, false);
            slot(condition + " that does not hold", condition, true, condition == 11 ? N : C | V | Z | N, true);
        }
    }

    private static void annulledIfAlways() {
        Check.sentence("or is 8, and bit 29 is 1");
        slot("8 with bit 29", 8, true, 0, true);
        WindowCore x = Bench.with(Code.branch(8, true, 100), 0);
        x.put(400, Code.opNumber(Code.ADD, 9, 0, 1));
        x.run(2);
        Bench.places("it is taken all the same", x, 400, 404);
    }

    private static void notAnnulledWithoutBit29() {
        Check.sentence("and bit 29 is 1");
        for (int condition = 0; condition < 16; condition++) {
            slot(condition + " without bit 29", condition, false, 0, false);
            slot(condition + " without bit 29, all flags", condition, false, C | V | Z | N, false);
        }
    }

    private static void onlyTheNextIsAnnulled() {
        Check.sentence("the next instruction is ANNULLED");
        WindowCore x = Bench.with(Code.branch(0, true, 100), Code.branch(0, true, 100),
            Code.opNumber(Code.ADD, 9, 0, 1));
        int[] due = {0, 1, 0};
        for (int i = 0; i < due.length; i++) {
            Check.due("step " + i, x.step(), due[i]);
        }
        Check.due("an annulled branch annuls nothing", x.register(0, 9), 1);
    }
}
