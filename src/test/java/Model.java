import java.util.NoSuchElementException;

/**
 * The document read a second time, sentence by sentence and in another form than the class: bytes,
 * flags and the rows of each window stand by themselves, and the type of a trap is looked for before
 * anything is done, in the document's order.
 */
final class Model {
    private static final int[] TYPES = {1, 2, 3, 5, 6, 7, 9};
    private static final String OPERATIONS =
        " 0 1 2 3 4 5 6 7 8 12 16 17 18 19 20 21 22 23 24 28 37 38 39 41 42 43 49 50 51 56 57 58 60 61 ";
    private static final String TRANSFERS = " 0 1 2 3 4 5 6 7 9 10 13 15 ";

    private final int[] bytes = new int[4096];
    private int[] shared;
    private int[][] outs;
    private int[][] locals;
    private int window;
    private boolean traps;
    private boolean before;
    private boolean kernel;
    private int level;
    private boolean carry;
    private boolean overflow;
    private boolean zero;
    private boolean negative;
    private boolean[] invalid;
    private int base;
    private int type;
    private int place;
    private int next;
    private boolean annulled;
    private boolean stopped;
    private int steps;
    private int trapCount;
    private int request;
    private int code;

    Model() {
        reset();
    }

    void reset() {
        shared = new int[8];
        outs = new int[8][8];
        locals = new int[8][8];
        invalid = new boolean[8];
        becomeStatus(0);
        kernel = true;
        base = 0;
        type = 0;
        place = 0;
        next = 4;
        annulled = false;
        stopped = false;
        steps = 0;
        trapCount = 0;
        request = 0;
    }

    int put(int address, int v) {
        int was = word(address);
        store(address, 4, v);
        return was;
    }

    int word(int address) {
        if (address % 4 != 0 || !inMemory(address, 4)) {
            throw new NoSuchElementException();
        }
        return (int) load(address, 4);
    }

    int set(int w, int r, int v) {
        int was = register(w, r);
        write(w, r, v);
        return was;
    }

    int register(int w, int r) {
        if (w < 0 || w > 7 || r < 0 || r > 31) {
            throw new NoSuchElementException();
        }
        return read(w, r);
    }

    int control(int what, int v) {
        if (what < 0 || what > 4) {
            throw new NoSuchElementException();
        }
        int was = look(what);
        if (what == 0) {
            becomeStatus(v);
        } else if (what == 1) {
            becomeInvalid(v);
        } else if (what == 2) {
            base = (int) bits(v, 12, 31);
            type = (int) bits(v, 4, 11);
        } else if (what == 3) {
            place = v / 4 * 4 - (v < 0 && v % 4 != 0 ? 4 : 0);
        } else {
            next = v / 4 * 4 - (v < 0 && v % 4 != 0 ? 4 : 0);
        }
        annulled = false;
        stopped = false;
        return was;
    }

    int request(int wanted) {
        if (wanted < 0 || wanted > 15) {
            throw new IllegalArgumentException();
        }
        int was = request;
        request = wanted;
        return was;
    }

    int run(int n) {
        if (n < 0 || n > 5000) {
            throw new IllegalArgumentException();
        }
        int count = 0;
        for (int i = 0; i < n; i++) {
            count += step() > 2 ? 1 : 0;
        }
        return count;
    }

    int look(int what) {
        switch (what) {
            case 0: return status();
            case 1: return invalidWord();
            case 2: return base * 4096 + type * 16;
            case 3: return place;
            case 4: return next;
            case 5: return number(annulled);
            case 6: return number(stopped);
            case 7: return steps;
            case 8: return trapCount;
            case 9: return request;
            default: throw new NoSuchElementException();
        }
    }

    int step() {
        if (stopped) {
            return 2;
        }
        steps++;
        if (annulled) {
            annulled = false;
            allOthers();
            return 1;
        }
        if (traps && (request == 15 || request > level)) {
            return trap(16 + request);
        }
        code = inMemory(place, 4) ? (int) load(place, 4) : 0;
        int first = firstType();
        if (first != 0) {
            return trap(first);
        }
        if (isOperation(57) && (!kernel || invalid[nextWindow()] || sum() % 4 != 0)) {
            stopped = true;
            return 2;
        }
        perform();
        return 0;
    }

    // ---- the words that are made of parts

    private static int number(boolean flag) {
        return flag ? 1 : 0;
    }

    private static long bits(int v, int from, int to) {
        return Integer.toUnsignedLong(v) / (1L << from) % (1L << (to - from + 1));
    }

    private static boolean bit(int v, int at) {
        return bits(v, at, at) == 1;
    }

    private static long withSign(long v, int width) {
        return v >= 1L << (width - 1) ? v - (1L << width) : v;
    }

    private int status() {
        int sum = window + 32 * number(traps) + 64 * number(before) + 128 * number(kernel) + 256 * level;
        return sum + 0x100000 * number(carry) + 0x200000 * number(overflow) + 0x400000 * number(zero)
            + 0x800000 * number(negative);
    }

    private void becomeStatus(int v) {
        window = (int) bits(v, 0, 4) % 8;
        traps = bit(v, 5);
        before = bit(v, 6);
        kernel = bit(v, 7);
        level = (int) bits(v, 8, 11);
        carry = bit(v, 20);
        overflow = bit(v, 21);
        zero = bit(v, 22);
        negative = bit(v, 23);
    }

    private int invalidWord() {
        int sum = 0;
        for (int w = 7; w >= 0; w--) {
            sum = 2 * sum + number(invalid[w]);
        }
        return sum;
    }

    private void becomeInvalid(int v) {
        for (int w = 0; w < 8; w++) {
            invalid[w] = bit(v, w);
        }
    }

    // ---- registers and memory

    private int nextWindow() {
        return window == 7 ? 0 : window + 1;
    }

    private int windowBefore() {
        return window == 0 ? 7 : window - 1;
    }

    private int[] rowOf(int w, int r) {
        if (r <= 7) {
            return shared;
        }
        if (r <= 15) {
            return outs[w];
        }
        return r <= 23 ? locals[w] : outs[w == 7 ? 0 : w + 1];
    }

    private int read(int w, int r) {
        return r == 0 ? 0 : rowOf(w, r)[r % 8];
    }

    private void write(int w, int r, int v) {
        rowOf(w, r)[r % 8] = v;
    }

    private static boolean inMemory(int address, int size) {
        return Integer.toUnsignedLong(address) + size <= 4096;
    }

    private long load(int address, int size) {
        long v = 0;
        for (int i = 0; i < size; i++) {
            v = v * 256 + bytes[address + i];
        }
        return v;
    }

    private void store(int address, int size, int v) {
        for (int i = 0; i < size; i++) {
            int low = 8 * (size - 1 - i);
            bytes[address + i] = (int) bits(v, low, low + 7);
        }
    }

    // ---- the instruction

    private int form() {
        return (int) bits(code, 30, 31);
    }

    private int kind() {
        return (int) bits(code, 19, 24);
    }

    private int d() {
        return (int) bits(code, 25, 29);
    }

    private long a() {
        return read(window, (int) bits(code, 14, 18));
    }

    private long b() {
        return bit(code, 13) ? withSign(bits(code, 0, 12), 13) : read(window, (int) bits(code, 0, 4));
    }

    private int sum() {
        return (int) (a() + b());
    }

    private int exclusive() {
        return (int) a() ^ (int) b();
    }

    private boolean isOperation(int kind) {
        return form() == 2 && kind() == kind;
    }

    private boolean isTransfer() {
        return form() == 3;
    }

    private int sizeMoved() {
        switch (kind()) {
            case 0: case 4: case 15: return 4;
            case 2: case 6: case 10: return 2;
            case 3: case 7: return 8;
            default: return 1;
        }
    }

    private boolean condition() {
        int number = (int) bits(code, 25, 28);
        boolean less = negative != overflow;
        boolean[] plain = {false, zero, zero || less, less, carry || zero, carry, negative, overflow};
        return number < 8 ? plain[number] : !plain[number - 8];
    }

    // ---- traps

    private int firstType() {
        for (int candidate : TYPES) {
            if (isOfType(candidate)) {
                return candidate;
            }
        }
        return isOperation(58) && condition() ? 128 + (int) bits(sum(), 0, 6) : 0;
    }

    private boolean isOfType(int candidate) {
        switch (candidate) {
            case 1: return !inMemory(place, 4);
            case 2: return isNone() || isTransfer() && sizeMoved() == 8 && d() % 2 == 1
                || isOperation(49) && bits(exclusive(), 0, 4) > 7 || isOperation(57) && traps && kernel;
            case 3: return !kernel && (isOfKernel() || isOperation(57) && traps);
            case 5: return isOperation(60) && invalid[windowBefore()];
            case 6: return isOperation(61) && invalid[nextWindow()];
            case 7: return isTransfer() && sum() % sizeMoved() != 0 || isOperation(56) && sum() % 4 != 0;
            default: return isTransfer() && !inMemory(sum(), sizeMoved());
        }
    }

    private boolean isNone() {
        if (form() == 0) {
            return bits(code, 22, 24) != 4 && bits(code, 22, 24) != 2;
        }
        return form() != 1 && !(form() == 2 ? OPERATIONS : TRANSFERS).contains(" " + kind() + " ");
    }

    private boolean isOfKernel() {
        return form() == 2 && (kind() >= 41 && kind() <= 43 || kind() >= 49 && kind() <= 51);
    }

    private int trap(int newType) {
        trapCount++;
        if (!traps) {
            stopped = true;
            return 2;
        }
        traps = false;
        before = kernel;
        kernel = true;
        window = windowBefore();
        locals[window][1] = place;
        locals[window][2] = next;
        type = newType;
        place = base * 4096 + type * 16;
        next = place + 4;
        return 100 + newType;
    }

    // ---- what is done

    private void to(int x) {
        place = next;
        next = x;
    }

    private void allOthers() {
        to(next + 4);
    }

    private void perform() {
        if (form() == 1) {
            write(window, 15, place);
            to((int) (place + 4 * bits(code, 0, 29)));
        } else if (form() == 0 && bits(code, 22, 24) == 4) {
            write(window, d(), (int) (bits(code, 0, 21) * 1024));
            allOthers();
        } else if (form() == 0) {
            branch();
        } else if (form() == 2) {
            operation();
        } else {
            transfer();
            allOthers();
        }
    }

    private void branch() {
        boolean always = bits(code, 25, 28) == 8;
        annulled = (!condition() || always) && bit(code, 29);
        if (condition()) {
            to((int) (place + 4 * withSign(bits(code, 0, 21), 22)));
        } else {
            allOthers();
        }
    }

    private void operation() {
        int sum = sum();
        switch (kind()) {
            case 56:
                write(window, d(), place);
                to(sum);
                return;
            case 57:
                window = nextWindow();
                traps = true;
                kernel = before;
                to(sum);
                return;
            case 58: break;
            case 60: turn(windowBefore(), sum); break;
            case 61: turn(nextWindow(), sum); break;
            case 41: case 42: case 43: write(window, d(), look(kind() - 41)); break;
            case 49: becomeStatus(exclusive()); break;
            case 50: becomeInvalid(exclusive()); break;
            case 51: base = (int) bits(exclusive(), 12, 31); break;
            case 37: case 38: case 39: write(window, d(), shifted()); break;
            default: calculate(); break;
        }
        allOthers();
    }

    private void turn(int to, int sum) {
        window = to;
        write(window, d(), sum);
    }

    private int shifted() {
        long factor = 1L << bits((int) b(), 0, 4);
        if (kind() == 37) {
            return (int) (a() * factor);
        }
        return (int) (kind() == 38 ? Integer.toUnsignedLong((int) a()) / factor : Math.floorDiv(a(), factor));
    }

    private void calculate() {
        int kind = kind() % 16;
        int c = kind == 8 || kind == 12 ? number(carry) : 0;
        boolean adds = kind == 0 || kind == 8;
        boolean subtracts = kind == 4 || kind == 12;
        long exact = adds ? a() + b() + c : subtracts ? a() - b() - c : logical(kind);
        long plainA = Integer.toUnsignedLong((int) a());
        long plainB = Integer.toUnsignedLong((int) b());
        if (kind() >= 16) {
            overflow = exact > Integer.MAX_VALUE || exact < Integer.MIN_VALUE;
            carry = adds && plainA + plainB + c > 0xFFFFFFFFL || subtracts && plainA < plainB + c;
            zero = (int) exact == 0;
            negative = (int) exact < 0;
        }
        write(window, d(), (int) exact);
    }

    private int logical(int kind) {
        int a = (int) a();
        int b = (int) b();
        switch (kind) {
            case 1: return a & b;
            case 2: return a | b;
            case 3: return a ^ b;
            case 5: return a & (-1 - b);
            case 6: return a | (-1 - b);
            default: return a ^ (-1 - b);
        }
    }

    private void transfer() {
        int address = sum();
        int size = sizeMoved();
        int d = d();
        long there = load(address, size == 8 ? 4 : size);
        switch (kind()) {
            case 0: case 1: case 2: write(window, d, (int) there); break;
            case 9: case 10: write(window, d, (int) withSign(there, 8 * size)); break;
            case 3:
                write(window, d, (int) there);
                write(window, d + 1, (int) load(address + 4, 4));
                break;
            case 4: case 5: case 6: store(address, size, read(window, d)); break;
            case 7:
                store(address, 4, read(window, d));
                store(address + 4, 4, read(window, d + 1));
                break;
            case 13:
                write(window, d, (int) there);
                store(address, 1, 255);
                break;
            default:
                store(address, 4, read(window, d));
                write(window, d, (int) there);
                break;
        }
    }
}
