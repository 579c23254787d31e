import java.util.Random;
import java.util.TreeMap;

/** Runs of calls at random: each answer is the one of the second reading of the document. */
public final class ModelTest {
    private static final int RUNS = 4000;
    private static final int CALLS = 350;
    private static final int[] KINDS_OF_OPERATION = {0, 1, 2, 3, 4, 5, 6, 7, 8, 12, 16, 17, 18, 19, 20, 21, 22, 23, 24,
        28, 37, 38, 39, 41, 42, 43, 49, 50, 51, 56, 56, 57, 57, 57, 58, 60, 60, 61, 61};
    private static final int[] KINDS_OF_TRANSFER = {0, 1, 2, 3, 4, 5, 6, 7, 9, 10, 13, 15};
    private static final int[] EDGES = {0, 1, -1, 2, 3, 4, 7, 8, 15, 16, 31, 32, 255, 256, 4088, 4090, 4092, 4094, 4095,
        4096, 4097, -2, -4, -8, 5000, 5001, Integer.MAX_VALUE, Integer.MIN_VALUE, Integer.MIN_VALUE + 4};
    private static final int[] STEP_ANSWERS = {0, 1, 2, 101, 102, 103, 105, 106, 107, 109, 117, 124, 131};

    private final Random random;
    private final TreeMap<Integer, Integer> answersOfSteps = new TreeMap<>();
    private WindowCore core;
    private Model model;

    private ModelTest(long seed) {
        random = new Random(seed);
    }

    public static void main(String[] args) {
        ModelTest test = new ModelTest(args.length > 0 ? Long.parseLong(args[0]) : 20261115);
        for (int i = 0; i < RUNS; i++) {
            test.oneRun(i);
        }
        for (int answer : STEP_ANSWERS) {
            Check.holds("some step answers " + answer, test.answersOfSteps.containsKey(answer));
        }
        Check.holds("some step answers 228 .. 355", test.answersOfSteps.ceilingKey(228) != null);
        Check.end();
    }

    private void oneRun(int number) {
        core = new WindowCore();
        model = new Model();
        String lately = "a new object";
        for (int i = 0; i < CALLS; i++) {
            int[] call = i < 100 ? preparing() : following();
            String due = answer(false, call);
            String got = answer(true, call);
            lately = "run " + number + ", call " + i + ", after " + lately;
            if (!got.equals(due)) {
                Check.holds(lately + ": " + textOf(call) + " answers " + got + ", due is " + due, false);
                return;
            }
            lately = textOf(call);
        }
        compareAll("run " + number + " at its end");
    }

    /** 162 calls, so that an object is used for at most 512. */
    private void compareAll(String what) {
        for (int i = 0; i <= 9; i++) {
            Check.due(what + ": look(" + i + ")", core.look(i), model.look(i));
        }
        for (int r = 0; r < 8; r++) {
            Check.due(what + ": register " + r, core.register(3, r), model.register(3, r));
        }
        for (int w = 0; w < 8; w++) {
            for (int r = 16; r < 32; r++) {
                Check.due(what + ": register " + r + " of " + w, core.register(w, r), model.register(w, r));
            }
        }
        for (int i = 0; i < 16; i++) {
            int address = 4 * random.nextInt(1024);
            Check.due(what + ": word " + address, core.word(address), model.word(address));
        }
    }

    // ---- calls: a number of the method, and its arguments

    private int[] preparing() {
        int which = random.nextInt(100);
        if (which < 60) {
            return new int[] {1, 4 * random.nextInt(64), instruction()};
        }
        if (which < 65) {
            return new int[] {1, 16 * random.nextInt(256), Code.opNumber(Code.JUMP, 0, 17, 0)};
        }
        if (which < 70) {
            return new int[] {1, 16 * random.nextInt(256) + 4, Code.opNumber(Code.RETURN, 0, 18, 0)};
        }
        return new int[] {3, random.nextInt(8), random.nextInt(32), value()};
    }

    /** A machine that is stopped, or that left the code, is mostly set going again. */
    private int[] following() {
        if (random.nextInt(4) == 0) {
            return any();
        }
        if (model.look(Bench.STOPPED) == 1) {
            return new int[] {5, Bench.STATUS, random.nextInt() & (random.nextInt(4) == 0 ? -1 : ~0xF00) | Bench.TRAPS};
        }
        if (Integer.compareUnsigned(model.look(Bench.PLACE), 256) >= 0 && random.nextInt(3) == 0) {
            return new int[] {5, Bench.PLACE, random.nextInt(256)};
        }
        if (Integer.compareUnsigned(model.look(Bench.NEXT), 256) >= 0 && random.nextInt(3) == 0) {
            return new int[] {5, Bench.NEXT, random.nextInt(256)};
        }
        return new int[] {7};
    }

    private int[] any() {
        int which = random.nextInt(1000);
        if (which < 500) {
            return new int[] {7};
        }
        if (which < 560) {
            return new int[] {8, random.nextInt(10) == 0 ? value() : random.nextInt(60)};
        }
        if (which < 680) {
            return new int[] {9, which < 670 ? random.nextInt(10) : value()};
        }
        if (which < 780) {
            return control();
        }
        if (which < 810) {
            return new int[] {6, which < 805 ? random.nextInt(16) : value()};
        }
        if (which < 860) {
            return new int[] {4, which < 855 ? random.nextInt(8) : value(), which < 850 ? random.nextInt(32) : value()};
        }
        if (which < 900) {
            return new int[] {3, which < 895 ? random.nextInt(8) : value(), which < 890 ? random.nextInt(32) : value(),
                value()};
        }
        if (which < 998) {
            int address = random.nextInt(5) == 0 ? value() : 4 * random.nextInt(64);
            return which < 950 ? new int[] {2, address} : new int[] {1, address, instruction()};
        }
        return new int[] {0};
    }

    private int[] control() {
        int what = random.nextInt(20) == 0 ? value() : random.nextInt(5);
        if (random.nextInt(4) == 0) {
            return new int[] {5, what, value()};
        }
        if (what == 0) {
            return new int[] {5, 0, random.nextInt() | (random.nextInt(3) == 0 ? 0 : Bench.TRAPS)};
        }
        if (what == 1) {
            return new int[] {5, 1, 1 << random.nextInt(10)};
        }
        return new int[] {5, what, what == 2 ? random.nextInt(4096) : random.nextInt(256)};
    }

    private int value() {
        switch (random.nextInt(5)) {
            case 0: return random.nextInt();
            case 1: return EDGES[random.nextInt(EDGES.length)];
            case 2: return 8 * random.nextInt(512);
            case 3: return random.nextInt(48) - 8;
            default: return random.nextInt(4200);
        }
    }

    private int instruction() {
        int rest = random.nextInt() & ~(3 << 30 | 63 << 19);
        if (random.nextInt(3) == 0) {
            rest = rest & ~0x1FE0 | 1 << 13;
        }
        switch (random.nextInt(10)) {
            case 0: return random.nextInt();
            case 1: return Code.call(random.nextInt(40) - 20);
            case 2: return Code.high(random.nextInt(32), random.nextInt());
            case 3: case 4: return Code.branch(random.nextInt(16), random.nextBoolean(), random.nextInt(40) - 20);
            case 5: case 6: return 3 << 30 | rest | KINDS_OF_TRANSFER[random.nextInt(KINDS_OF_TRANSFER.length)] << 19;
            default: return 2 << 30 | rest | KINDS_OF_OPERATION[random.nextInt(KINDS_OF_OPERATION.length)] << 19;
        }
    }

    private String answer(boolean ofCore, int[] call) {
        try {
            int answer = ofCore ? ofCore(call) : ofModel(call);
            if (call[0] == 7) {
                answersOfSteps.merge(answer, 1, Integer::sum);
            }
            return Integer.toString(answer);
        } catch (RuntimeException e) {
            return e.getClass().getName();
        }
    }

    private int ofCore(int[] call) {
        switch (call[0]) {
            case 1: return core.put(call[1], call[2]);
            case 2: return core.word(call[1]);
            case 3: return core.set(call[1], call[2], call[3]);
            case 4: return core.register(call[1], call[2]);
            case 5: return core.control(call[1], call[2]);
            case 6: return core.request(call[1]);
            case 7: return core.step();
            case 8: return core.run(call[1]);
            case 9: return core.look(call[1]);
            default:
                core.reset();
                return 0;
        }
    }

    private int ofModel(int[] call) {
        switch (call[0]) {
            case 1: return model.put(call[1], call[2]);
            case 2: return model.word(call[1]);
            case 3: return model.set(call[1], call[2], call[3]);
            case 4: return model.register(call[1], call[2]);
            case 5: return model.control(call[1], call[2]);
            case 6: return model.request(call[1]);
            case 7: return model.step();
            case 8: return model.run(call[1]);
            case 9: return model.look(call[1]);
            default:
                model.reset();
                return 0;
        }
    }

    private static String textOf(int[] call) {
        String[] names = {"reset", "put", "word", "set", "register", "control", "request", "step", "run", "look"};
        StringBuilder text = new StringBuilder(names[call[0]]).append('(');
        for (int i = 1; i < call.length; i++) {
            text.append(i == 1 ? "" : ", ").append(call[i]);
        }
        return text.append(')').toString();
    }
}
