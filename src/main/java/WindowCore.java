import java.util.Arrays;
import java.util.NoSuchElementException;

/**
 * A machine of words whose registers lie in windows that overlap.
 * The numbers of instructions, traps and bits are those of the document.
 */
public final class WindowCore {
    public static final int NONE = -1;

    private static final int MEMORY_BYTES = 4096;
    private static final int WINDOWS = 8;
    private static final int REGISTERS = 32;
    private static final int SHARED_REGISTERS = 8;
    private static final int REGISTERS_PER_WINDOW = 16;
    private static final int WINDOWED_REGISTERS = WINDOWS * REGISTERS_PER_WINDOW;
    private static final int CALL_REGISTER = 15;
    private static final int SAVED_PLACE = 17;
    private static final int SAVED_NEXT = 18;
    private static final int HIGHEST_REQUEST = 15;
    private static final int MOST_STEPS = 5000;

    private static final int WINDOW_FIELD = 0x1F;
    private static final int TRAPS = 1 << 5;
    private static final int BEFORE = 1 << 6;
    private static final int KERNEL = 1 << 7;
    private static final int LEVEL_SHIFT = 8;
    private static final int LEVEL_MASK = 15;
    private static final int CARRY = 1 << 20;
    private static final int OVERFLOW = 1 << 21;
    private static final int ZERO = 1 << 22;
    private static final int NEGATIVE = 1 << 23;
    private static final int FLAGS = CARRY | OVERFLOW | ZERO | NEGATIVE;
    private static final int STATUS_FIELDS = 0x00F00FFF;
    private static final int INVALID_FIELDS = 0xFF;
    private static final int TABLE_FIELDS = 0xFFFFFFF0;
    private static final int TABLE_BASE = 0xFFFFF000;
    private static final int TYPE_SHIFT = 4;
    private static final int ADDRESS_OF_WORD = 0xFFFFFFFC;

    private static final int DONE = 0;
    private static final int SKIPPED = 1;
    private static final int HALTED = 2;
    private static final int TRAPPED = 100;

    private static final int NO_CODE_THERE = 1;
    private static final int NO_INSTRUCTION = 2;
    private static final int NOT_KERNEL = 3;
    private static final int NO_WINDOW_TO_SAVE = 5;
    private static final int NO_WINDOW_TO_RESTORE = 6;
    private static final int NOT_ALIGNED = 7;
    private static final int NO_DATA_THERE = 9;
    private static final int FIRST_INTERRUPT = 16;
    private static final int FIRST_OF_PROGRAM = 128;

    // Words, not bytes: a quarter of the elements, and most accesses are of words.
    private final int[] memory;
    private final int[] registers;
    private int status;
    private int invalid;
    private int table;
    private int place;
    private int next;
    private int requested;
    private int steps;
    private int traps;
    private boolean annulled;
    private boolean stopped;

    public WindowCore() {
        memory = new int[MEMORY_BYTES / 4];
        registers = new int[SHARED_REGISTERS + WINDOWED_REGISTERS];
        begin();
    }

    public void reset() {
        begin();
    }

    public int put(int address, int v) throws java.util.NoSuchElementException {
        if (!isWordOfMemory(address)) {
            throw new NoSuchElementException();
        }
        int was = memory[address >>> 2];
        memory[address >>> 2] = v;
        return was;
    }

    public int word(int address) throws java.util.NoSuchElementException {
        if (!isWordOfMemory(address)) {
            throw new NoSuchElementException();
        }
        return memory[address >>> 2];
    }

    public int set(int window, int register, int v) throws java.util.NoSuchElementException {
        if (!isRegister(window, register)) {
            throw new NoSuchElementException();
        }
        int was = registers[slot(window, register)];
        if (register != 0) {
            registers[slot(window, register)] = v;
        }
        return was;
    }

    public int register(int window, int register) throws java.util.NoSuchElementException {
        if (!isRegister(window, register)) {
            throw new NoSuchElementException();
        }
        return registers[slot(window, register)];
    }

    public int control(int what, int v) throws java.util.NoSuchElementException {
        if (what < 0 || what > 4) {
            throw new NoSuchElementException();
        }
        int was = shown(what);
        change(what, v);
        annulled = false;
        stopped = false;
        return was;
    }

    public int request(int level) throws IllegalArgumentException {
        if (level < 0 || level > HIGHEST_REQUEST) {
            throw new IllegalArgumentException();
        }
        int was = requested;
        requested = level;
        return was;
    }

    public int step() {
        return advance();
    }

    public int run(int n) throws IllegalArgumentException {
        if (n < 0 || n > MOST_STEPS) {
            throw new IllegalArgumentException();
        }
        int trapped = 0;
        for (int i = 0; i < n && !stopped; i++) {
            if (advance() >= TRAPPED) {
                trapped++;
            }
        }
        return trapped;
    }

    public int look(int what) throws java.util.NoSuchElementException {
        if (what < 0 || what > 9) {
            throw new NoSuchElementException();
        }
        return shown(what);
    }

    // ---- the state

    private void begin() {
        Arrays.fill(registers, 0);
        status = KERNEL;
        invalid = 0;
        table = 0;
        place = 0;
        next = 4;
        requested = 0;
        steps = 0;
        traps = 0;
        annulled = false;
        stopped = false;
    }

    private int shown(int what) {
        switch (what) {
            case 0: return status;
            case 1: return invalid;
            case 2: return table;
            case 3: return place;
            case 4: return next;
            case 5: return annulled ? 1 : 0;
            case 6: return stopped ? 1 : 0;
            case 7: return steps;
            case 8: return traps;
            default: return requested;
        }
    }

    private void change(int what, int v) {
        switch (what) {
            case 0:
                status = v & STATUS_FIELDS;
                turnTo(v);
                break;
            case 1:
                invalid = v & INVALID_FIELDS;
                break;
            case 2:
                table = v & TABLE_FIELDS;
                break;
            case 3:
                place = v & ADDRESS_OF_WORD;
                break;
            default:
                next = v & ADDRESS_OF_WORD;
                break;
        }
    }

    private boolean has(int statusBit) {
        return (status & statusBit) != 0;
    }

    // ---- registers and windows

    private static boolean isRegister(int window, int register) {
        return window >= 0 && window < WINDOWS && register >= 0 && register < REGISTERS;
    }

    // The outs and locals of all windows stand in one ring, so that the ins
    // of a window fall on the outs of the next one by themselves.
    private static int slot(int window, int register) {
        if (register < SHARED_REGISTERS) {
            return register;
        }
        int around = window * REGISTERS_PER_WINDOW + register - SHARED_REGISTERS;
        return SHARED_REGISTERS + (around & (WINDOWED_REGISTERS - 1));
    }

    private int read(int register) {
        return registers[slot(window(), register)];
    }

    private void write(int register, int v) {
        if (register != 0) {
            registers[slot(window(), register)] = v;
        }
    }

    private int window() {
        return status & (WINDOWS - 1);
    }

    private int windowBeside(int distance) {
        return (window() + distance) & (WINDOWS - 1);
    }

    private void turnTo(int window) {
        status = (status & ~WINDOW_FIELD) | (window & (WINDOWS - 1));
    }

    private boolean isInvalid(int window) {
        return ((invalid >>> window) & 1) != 0;
    }

    // ---- memory

    private static boolean isInMemory(int address) {
        return address >= 0 && address < MEMORY_BYTES;
    }

    private static boolean isWordOfMemory(int address) {
        return isInMemory(address) && (address & 3) == 0;
    }

    // How far the part of a word lies above the word's lowest bit.
    private static int shiftOfPart(int address, int size) {
        return 8 * (4 - size - (address & 3));
    }

    private static int maskOfPart(int size) {
        return -1 >>> (32 - 8 * size);
    }

    private int load(int address, int size) {
        return (memory[address >>> 2] >>> shiftOfPart(address, size)) & maskOfPart(size);
    }

    private void store(int address, int size, int v) {
        int shift = shiftOfPart(address, size);
        int mask = maskOfPart(size);
        int rest = memory[address >>> 2] & ~(mask << shift);
        memory[address >>> 2] = rest | ((v & mask) << shift);
    }

    // ---- a step

    private int advance() {
        if (stopped) {
            return HALTED;
        }
        steps++;
        if (annulled) {
            annulled = false;
            goOn();
            return SKIPPED;
        }
        if (isInterrupted()) {
            return trap(FIRST_INTERRUPT + requested);
        }
        if (!isWordOfMemory(place)) {
            return trap(NO_CODE_THERE);
        }
        return perform(memory[place >>> 2]);
    }

    private boolean isInterrupted() {
        int level = (status >>> LEVEL_SHIFT) & LEVEL_MASK;
        return has(TRAPS) && (requested == HIGHEST_REQUEST || requested > level);
    }

    private int goOn() {
        return goTo(next + 4);
    }

    private int goTo(int target) {
        place = next;
        next = target;
        return DONE;
    }

    private int trap(int type) {
        traps++;
        if (!has(TRAPS)) {
            return halt();
        }
        int before = has(KERNEL) ? BEFORE : 0;
        status = (status & ~(TRAPS | BEFORE)) | KERNEL | before;
        turnTo(windowBeside(-1));
        write(SAVED_PLACE, place);
        write(SAVED_NEXT, next);
        table = (table & TABLE_BASE) | (type << TYPE_SHIFT);
        place = table;
        next = table + 4;
        return TRAPPED + type;
    }

    private int halt() {
        stopped = true;
        return HALTED;
    }

    // ---- the parts of an instruction

    private static int numberOfD(int code) {
        return (code >>> 25) & 31;
    }

    private static int conditionOf(int code) {
        return (code >>> 25) & 15;
    }

    private static int kindOf(int code) {
        return (code >>> 19) & 63;
    }

    private int valueOfA(int code) {
        return read((code >>> 14) & 31);
    }

    private int valueOfB(int code) {
        if ((code & (1 << 13)) != 0) {
            return (code << 19) >> 19;
        }
        return read(code & 31);
    }

    // ---- instructions

    private int perform(int code) {
        switch (code >>> 30) {
            case 0: return performShort(code);
            case 1: return performCall(code);
            case 2: return performOperation(code, kindOf(code));
            default: return performTransfer(code, kindOf(code));
        }
    }

    private int performCall(int code) {
        int target = place + (code << 2);
        write(CALL_REGISTER, place);
        return goTo(target);
    }

    private int performShort(int code) {
        switch ((code >>> 22) & 7) {
            case 2:
                return performBranch(code);
            case 4:
                write(numberOfD(code), code << 10);
                return goOn();
            default:
                return trap(NO_INSTRUCTION);
        }
    }

    private int performBranch(int code) {
        int condition = conditionOf(code);
        boolean taken = holds(condition);
        boolean mayAnnul = (code & (1 << 29)) != 0;
        annulled = mayAnnul && (!taken || condition == 8);
        if (!taken) {
            return goOn();
        }
        return goTo(place + (((code << 10) >> 10) << 2));
    }

    private boolean holds(int condition) {
        boolean opposite = condition >= 8;
        return holdsPlainly(condition & 7) != opposite;
    }

    private boolean holdsPlainly(int condition) {
        boolean less = has(NEGATIVE) != has(OVERFLOW);
        switch (condition) {
            case 1: return has(ZERO);
            case 2: return has(ZERO) || less;
            case 3: return less;
            case 4: return has(CARRY) || has(ZERO);
            case 5: return has(CARRY);
            case 6: return has(NEGATIVE);
            case 7: return has(OVERFLOW);
            default: return false;
        }
    }

    private int performOperation(int code, int kind) {
        if (kind < 32) {
            return performArithmetic(code, kind);
        }
        switch (kind) {
            case 37: case 38: case 39: return performShift(code, kind);
            case 41: case 42: case 43: return performReading(code, kind);
            case 49: case 50: case 51: return performWriting(code, kind);
            case 56: return performJump(code);
            case 57: return performReturn(code);
            case 58: return performTrap(code);
            case 60: return performTurn(code, windowBeside(-1), NO_WINDOW_TO_SAVE);
            case 61: return performTurn(code, windowBeside(1), NO_WINDOW_TO_RESTORE);
            default: return trap(NO_INSTRUCTION);
        }
    }

    // ---- arithmetic

    private int performArithmetic(int code, int kind) {
        int operation = kind & 15;
        if (operation > 8 && operation != 12) {
            return trap(NO_INSTRUCTION);
        }
        int a = valueOfA(code);
        int b = valueOfB(code);
        int carry = operation >= 8 && has(CARRY) ? 1 : 0;
        int result = resultOf(operation, a, b, carry);
        if (kind >= 16) {
            int flags = flagsOfResult(result) | flagsOfCarrying(operation, a, b, carry);
            status = (status & ~FLAGS) | flags;
        }
        write(numberOfD(code), result);
        return goOn();
    }

    private static int resultOf(int operation, int a, int b, int carry) {
        switch (operation) {
            case 1: return a & b;
            case 2: return a | b;
            case 3: return a ^ b;
            case 5: return a & ~b;
            case 6: return a | ~b;
            case 7: return a ^ ~b;
            case 4: case 12: return a - b - carry;
            default: return a + b + carry;
        }
    }

    private static int flagsOfResult(int result) {
        if (result == 0) {
            return ZERO;
        }
        return result < 0 ? NEGATIVE : 0;
    }

    private static int flagsOfCarrying(int operation, int a, int b, int carry) {
        boolean isSum = operation == 0 || operation == 8;
        boolean isDifference = operation == 4 || operation == 12;
        if (!isSum && !isDifference) {
            return 0;
        }
        long withSign = total(isSum, a, (long) b + carry);
        long withoutSign = total(isSum, unsigned(a), unsigned(b) + carry);
        int overflow = withSign != (int) withSign ? OVERFLOW : 0;
        int carried = withoutSign != unsigned((int) withoutSign) ? CARRY : 0;
        return overflow | carried;
    }

    private static long total(boolean isSum, long a, long b) {
        return isSum ? a + b : a - b;
    }

    private static long unsigned(int v) {
        return v & 0xFFFFFFFFL;
    }

    private int performShift(int code, int kind) {
        int a = valueOfA(code);
        int distance = valueOfB(code) & 31;
        int result;
        if (kind == 37) {
            result = a << distance;
        } else if (kind == 38) {
            result = a >>> distance;
        } else {
            result = a >> distance;
        }
        write(numberOfD(code), result);
        return goOn();
    }

    // ---- STATUS, INVALID and TABLE

    private int performReading(int code, int kind) {
        if (!has(KERNEL)) {
            return trap(NOT_KERNEL);
        }
        write(numberOfD(code), shown(kind - 41));
        return goOn();
    }

    private int performWriting(int code, int kind) {
        int v = valueOfA(code) ^ valueOfB(code);
        if (kind == 49 && (v & WINDOW_FIELD) >= WINDOWS) {
            return trap(NO_INSTRUCTION);
        }
        if (!has(KERNEL)) {
            return trap(NOT_KERNEL);
        }
        if (kind == 49) {
            status = v & STATUS_FIELDS;
        } else if (kind == 50) {
            invalid = v & INVALID_FIELDS;
        } else {
            table = (v & TABLE_BASE) | (table & ~TABLE_BASE);
        }
        return goOn();
    }

    // ---- jumps, traps and windows

    private int performJump(int code) {
        int target = valueOfA(code) + valueOfB(code);
        if ((target & 3) != 0) {
            return trap(NOT_ALIGNED);
        }
        write(numberOfD(code), place);
        return goTo(target);
    }

    private int performReturn(int code) {
        if (has(TRAPS)) {
            return trap(has(KERNEL) ? NO_INSTRUCTION : NOT_KERNEL);
        }
        int target = valueOfA(code) + valueOfB(code);
        int window = windowBeside(1);
        // The document calls this a stop and gives it no type, so it is no trap.
        if (!has(KERNEL) || isInvalid(window) || (target & 3) != 0) {
            return halt();
        }
        int kernel = has(BEFORE) ? KERNEL : 0;
        status = (status & ~KERNEL) | kernel | TRAPS;
        turnTo(window);
        return goTo(target);
    }

    private int performTrap(int code) {
        if (!holds(conditionOf(code))) {
            return goOn();
        }
        return trap(FIRST_OF_PROGRAM + ((valueOfA(code) + valueOfB(code)) & 127));
    }

    private int performTurn(int code, int window, int typeIfInvalid) {
        if (isInvalid(window)) {
            return trap(typeIfInvalid);
        }
        int sum = valueOfA(code) + valueOfB(code);
        turnTo(window);
        write(numberOfD(code), sum);
        return goOn();
    }

    // ---- loads and stores

    private int performTransfer(int code, int kind) {
        int size = sizeMoved(kind);
        int d = numberOfD(code);
        if (size == 0 || (size == 8 && (d & 1) != 0)) {
            return trap(NO_INSTRUCTION);
        }
        int address = valueOfA(code) + valueOfB(code);
        if ((address & (size - 1)) != 0) {
            return trap(NOT_ALIGNED);
        }
        // An aligned part that begins in memory also ends there.
        if (!isInMemory(address)) {
            return trap(NO_DATA_THERE);
        }
        if (size == 8) {
            moveTwoWords(kind, d, address);
        } else {
            moveOne(kind, d, address, size);
        }
        return goOn();
    }

    // 0 stands for a kind that is no instruction.
    private static int sizeMoved(int kind) {
        switch (kind) {
            case 1: case 5: case 9: case 13: return 1;
            case 2: case 6: case 10: return 2;
            case 0: case 4: case 15: return 4;
            case 3: case 7: return 8;
            default: return 0;
        }
    }

    private void moveTwoWords(int kind, int d, int address) {
        if (kind == 3) {
            write(d, load(address, 4));
            write(d + 1, load(address + 4, 4));
        } else {
            store(address, 4, read(d));
            store(address + 4, 4, read(d + 1));
        }
    }

    private void moveOne(int kind, int d, int address, int size) {
        int there = load(address, size);
        switch (kind) {
            case 4: case 5: case 6:
                store(address, size, read(d));
                break;
            case 9: case 10:
                write(d, withSign(there, size));
                break;
            case 13:
                store(address, size, 255);
                write(d, there);
                break;
            case 15:
                store(address, size, read(d));
                write(d, there);
                break;
            default:
                write(d, there);
                break;
        }
    }

    private static int withSign(int v, int size) {
        int unused = 32 - 8 * size;
        return (v << unused) >> unused;
    }
}
