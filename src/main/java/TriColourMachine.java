import java.util.Arrays;
import java.util.NoSuchElementException;

/**
 * A small machine of tables and coroutines with a collector that works in steps.
 *
 * <p>A VALUE is held as the long by which the document tells it, so that ALIKE is == and nothing
 * has to be translated on its way out.
 */
public final class TriColourMachine {
    private static final long NIL = -1000000000000L;
    private static final long FIRST_OBJECT = 10000000000L;
    private static final long LEAST_NUMBER = -2147483648L;
    private static final long MOST_NUMBER = 2147483647L;

    private static final int GLOBALS = 6;
    private static final int OBJECTS = 16;
    private static final int REGISTERS = 4;
    private static final int FUNCTIONS = 4;
    private static final int INSTRUCTIONS = 16;
    private static final int MOST_PAIRS = 6;
    private static final int MOST_TABLES = 5;
    private static final int MOST_ACTIVE = 5;
    private static final int MOST_STEPS = 200;
    private static final int MOST_UNITS = 100;

    /** Far above the units that any cycle over 16 objects can take. */
    private static final int CYCLE_BOUND = 1000;

    private static final int FREE = 0;
    private static final int TABLE = 1;
    private static final int COROUTINE = 2;

    private static final int WHITE = 0;
    private static final int GRAY = 1;
    private static final int BLACK = 2;

    private static final int RESTS = 0;
    private static final int MARKS = 1;
    private static final int SWEEPS = 2;

    private static final int FRESH = 0;
    private static final int YIELDED = 1;
    private static final int ACTIVE = 2;
    private static final int DEAD = 3;

    private static final int FINE = 0;
    private static final int WRONG = 1;
    private static final int TOO_DEEP = 2;
    private static final int NO_ROOM = 3;

    private static final long GETS_FROM = 0;
    private static final long SETS_IN = 1;

    private static final int NOTHING = -1;
    private static final int LOAD_NIL = 0;
    private static final int LOAD_NUMBER = 1;
    private static final int COPY = 2;
    private static final int READ_GLOBAL = 3;
    private static final int WRITE_GLOBAL = 4;
    private static final int NEW_TABLE = 5;
    private static final int GET_KEY = 6;
    private static final int SET_KEY = 7;
    private static final int ADD = 8;
    private static final int SUBTRACT = 9;
    private static final int MULTIPLY = 10;
    private static final int JUMP_IF_BELOW = 11;
    private static final int JUMP = 12;
    private static final int JUMP_IF_NIL = 13;
    private static final int JUMP_IF_ALIKE = 14;
    private static final int SET_META = 15;
    private static final int NEW_COROUTINE = 16;
    private static final int RESUME = 17;
    private static final int YIELD = 18;
    private static final int RETURN = 19;
    private static final int NEXT_KEY = 20;
    private static final int HOW_MANY = 21;
    private static final int LAST_OP = HOW_MANY;

    private final Processor processor;
    private final Heap heap;

    public TriColourMachine() {
        Heap room = new Heap();
        heap = room;
        processor = new Processor(room);
    }

    public void code(int f, int i, int op, int a, int b, int c) throws IllegalArgumentException {
        checkRange(f, 0, FUNCTIONS - 1);
        checkRange(i, 0, INSTRUCTIONS - 1);
        checkRange(op, NOTHING, LAST_OP);
        Instruction x = processor.instructionAt(f, i);
        x.op = op;
        x.a = a;
        x.b = b;
        x.c = c;
    }

    public void number(int g, int v) throws IllegalArgumentException {
        checkGlobal(g);
        heap.globals[g] = v;
    }

    public void move(int g, int h) throws IllegalArgumentException {
        checkGlobal(g);
        checkRange(h, -1, GLOBALS - 1);
        heap.globals[g] = h < 0 ? NIL : heap.globals[h];
    }

    public int make(int g, int function) throws IllegalArgumentException, IllegalStateException {
        checkGlobal(g);
        checkRange(function, -1, FUNCTIONS - 1);
        raise(heap.create(function < 0 ? TABLE : COROUTINE, function));
        heap.globals[g] = heap.found;
        return numberOf(heap.found);
    }

    public void set(int t, int k, int v)
            throws IllegalArgumentException, IllegalStateException, UnsupportedOperationException {
        checkGlobal(t);
        checkGlobal(k);
        checkGlobal(v);
        raise(heap.setting(heap.globals[t], heap.globals[k], heap.globals[v]));
    }

    public long get(int t, int k, int to)
            throws IllegalArgumentException, IllegalStateException, UnsupportedOperationException {
        checkGlobal(t);
        checkGlobal(k);
        checkGlobal(to);
        raise(heap.getting(heap.globals[t], heap.globals[k]));
        heap.globals[to] = heap.found;
        return heap.found;
    }

    public void meta(int t, int m) throws IllegalArgumentException, UnsupportedOperationException {
        checkGlobal(t);
        checkGlobal(m);
        raise(heap.settingMeta(heap.globals[t], heap.globals[m]));
    }

    public long resume(int g, int v, int to)
            throws IllegalArgumentException, IllegalStateException, UnsupportedOperationException {
        checkGlobal(g);
        checkGlobal(v);
        checkGlobal(to);
        raise(processor.run(heap.globals[g], heap.globals[v]));
        heap.globals[to] = processor.outcome;
        return processor.outcome;
    }

    public int collect(int n) throws IllegalArgumentException {
        checkRange(n, 1, MOST_UNITS);
        int before = heap.gone;
        for (int i = 0; i < n; i++) {
            heap.unit();
        }
        return heap.gone - before;
    }

    public int full() {
        int before = heap.gone;
        heap.fullCollection();
        return heap.gone - before;
    }

    public long global(int g) throws IllegalArgumentException {
        checkGlobal(g);
        return heap.globals[g];
    }

    public int object(int n, int what) throws IllegalArgumentException, NoSuchElementException {
        checkRange(n, 0, OBJECTS - 1);
        checkRange(what, 0, 3);
        Cell cell = heap.cells[n];
        if (what == 0) {
            return cell.kind;
        }
        if (cell.kind == FREE) {
            throw new NoSuchElementException();
        }
        if (what == 1) {
            return cell.colour;
        }
        if (cell.kind == TABLE) {
            return what == 2 ? cell.table.pairs : cell.table.meta;
        }
        return what == 2 ? cell.coroutine.place : cell.coroutine.state;
    }

    public long inside(int n, int i, boolean value)
            throws IllegalArgumentException, NoSuchElementException {
        checkRange(n, 0, OBJECTS - 1);
        if (i < 0) {
            throw new IllegalArgumentException();
        }
        Cell cell = heap.cells[n];
        if (i >= cell.rows(value)) {
            throw new NoSuchElementException();
        }
        if (cell.kind == COROUTINE) {
            return cell.coroutine.registers[i];
        }
        return value ? cell.table.values[i] : cell.table.keys[i];
    }

    public int count(int what) {
        switch (what) {
            case 0: return heap.made - heap.gone;
            case 1: return heap.phase;
            case 2: return heap.sweepFrom;
            case 3: return heap.made;
            case 4: return heap.gone;
            case 5: return processor.begun;
            case 6: return heap.grayOnes();
            case 7: return heap.units;
            case 8: return heap.fullCollections;
            default: return -1;
        }
    }

    private static void checkGlobal(int g) {
        checkRange(g, 0, GLOBALS - 1);
    }

    private static void checkRange(int n, int least, int most) {
        if (n < least || n > most) {
            throw new IllegalArgumentException();
        }
    }

    private static void raise(int trouble) {
        if (trouble == WRONG) {
            throw new UnsupportedOperationException();
        }
        if (trouble != FINE) {
            throw new IllegalStateException();
        }
    }

    private static boolean isNumber(long v) {
        return v >= LEAST_NUMBER && v <= MOST_NUMBER;
    }

    private static int numberOf(long object) {
        return (int) (object - FIRST_OBJECT);
    }

    /** A TABLE's PAIRS, in the order in which their KEYS came, and its META's number or -1. */
    private static final class Table {
        final long[] keys = new long[MOST_PAIRS];
        final long[] values = new long[MOST_PAIRS];
        int pairs = 0;
        int meta = -1;

        void clear() {
            pairs = 0;
            meta = -1;
        }

        /** The PAIR of the KEY, or -1. */
        int find(long key) {
            for (int i = 0; i < pairs; i++) {
                if (keys[i] == key) {
                    return i;
                }
            }
            return -1;
        }

        void append(long key, long value) {
            keys[pairs] = key;
            values[pairs] = value;
            pairs++;
        }

        void takeAway(int pair) {
            int behind = pairs - pair - 1;
            System.arraycopy(keys, pair + 1, keys, pair, behind);
            System.arraycopy(values, pair + 1, values, pair, behind);
            pairs--;
        }
    }

    private static final class Coroutine {
        final long[] registers = new long[REGISTERS];
        int function = 0;
        int place = 0;
        int state = FRESH;

        /** The REGISTER for the next VALUE in: kept, since code may replace the YIELD meanwhile. */
        int comesIn = 0;

        /** The REGISTER for the outcome of the COROUTINE that this one is RESUMING. */
        int awaits = 0;

        void clear(int f) {
            Arrays.fill(registers, NIL);
            function = f;
            place = 0;
            state = FRESH;
            comesIn = 0;
        }
    }

    /** The room of one OBJECT: it has both forms from the start, so that no call makes a new one. */
    private static final class Cell {
        final Table table = new Table();
        final Coroutine coroutine = new Coroutine();
        int kind = FREE;
        int colour = WHITE;

        boolean isActive() {
            return kind == COROUTINE && coroutine.state == ACTIVE;
        }

        /** How many KEYS, VALUES (second true) or REGISTERS can be looked at. */
        int rows(boolean second) {
            if (kind == TABLE) {
                return table.pairs;
            }
            return kind == COROUTINE && !second ? REGISTERS : 0;
        }
    }

    private static final class Instruction {
        int op = NOTHING;
        int a = 0;
        int b = 0;
        int c = 0;
    }

    /** GLOBALS, OBJECTS and THE COLLECTOR. */
    private static final class Heap {
        final long[] globals = new long[GLOBALS];
        final Cell[] cells = new Cell[OBJECTS];
        int phase = RESTS;
        int sweepFrom = 0;
        int made = 0;
        int gone = 0;
        int units = 0;
        int fullCollections = 0;

        /** The VALUE of the last create, getting, keyAfter or howMany that was FINE. */
        long found = NIL;

        Heap() {
            Arrays.fill(globals, NIL);
            for (int i = 0; i < OBJECTS; i++) {
                cells[i] = new Cell();
            }
        }

        boolean isA(int kind, long v) {
            return v >= FIRST_OBJECT && cells[numberOf(v)].kind == kind;
        }

        int create(int kind, int function) {
            int n = leastFree();
            if (n < 0) {
                fullCollection();
                n = leastFree();
            }
            if (n < 0) {
                return NO_ROOM;
            }
            Cell cell = cells[n];
            cell.kind = kind;
            cell.colour = birthColour(n);
            if (kind == TABLE) {
                cell.table.clear();
            } else {
                cell.coroutine.clear(function);
            }
            made++;
            found = FIRST_OBJECT + n;
            return FINE;
        }

        private int leastFree() {
            for (int n = 0; n < OBJECTS; n++) {
                if (cells[n].kind == FREE) {
                    return n;
                }
            }
            return -1;
        }

        private int birthColour(int n) {
            if (phase == MARKS || (phase == SWEEPS && n >= sweepFrom)) {
                return BLACK;
            }
            return WHITE;
        }

        int getting(long table, long key) {
            if (!isA(TABLE, table)) {
                return WRONG;
            }
            found = NIL;
            if (key == NIL) {
                return FINE;
            }
            int n = lastTable(numberOf(table), key, GETS_FROM);
            if (n < 0) {
                return TOO_DEEP;
            }
            Table last = cells[n].table;
            int pair = last.find(key);
            if (pair >= 0) {
                found = last.values[pair];
            }
            return FINE;
        }

        int setting(long table, long key, long value) {
            if (!isA(TABLE, table) || key == NIL) {
                return WRONG;
            }
            int n = lastTable(numberOf(table), key, SETS_IN);
            if (n < 0) {
                return TOO_DEEP;
            }
            Table last = cells[n].table;
            int pair = last.find(key);
            if (pair < 0 && value == NIL) {
                return FINE;
            }
            if (pair < 0 && last.pairs == MOST_PAIRS) {
                return NO_ROOM;
            }
            if (pair < 0) {
                last.append(key, value);
            } else if (value == NIL) {
                last.takeAway(pair);
            } else {
                last.values[pair] = value;
            }
            touch(n);
            return FINE;
        }

        /** The TABLE that has the KEY, or from which no META leads further; -1: too many. */
        private int lastTable(int first, long key, long link) {
            int n = first;
            for (int seen = 0; seen < MOST_TABLES; seen++) {
                Table table = cells[n].table;
                int further = table.find(key) >= 0 ? -1 : linked(table.meta, link);
                if (further < 0) {
                    return n;
                }
                n = further;
            }
            return -1;
        }

        /** The TABLE to which the META leads under the link, or -1. */
        private int linked(int meta, long link) {
            if (meta < 0) {
                return -1;
            }
            Table table = cells[meta].table;
            int pair = table.find(link);
            if (pair < 0 || !isA(TABLE, table.values[pair])) {
                return -1;
            }
            return numberOf(table.values[pair]);
        }

        int settingMeta(long table, long meta) {
            if (!isA(TABLE, table) || (meta != NIL && !isA(TABLE, meta))) {
                return WRONG;
            }
            int n = numberOf(table);
            cells[n].table.meta = meta == NIL ? -1 : numberOf(meta);
            touch(n);
            return FINE;
        }

        int keyAfter(long table, long key) {
            if (!isA(TABLE, table)) {
                return WRONG;
            }
            Table asked = cells[numberOf(table)].table;
            int pair = key == NIL ? -1 : asked.find(key);
            if (pair < 0 && key != NIL) {
                return WRONG;
            }
            found = pair + 1 < asked.pairs ? asked.keys[pair + 1] : NIL;
            return FINE;
        }

        int howMany(long table) {
            if (!isA(TABLE, table)) {
                return WRONG;
            }
            found = cells[numberOf(table)].table.pairs;
            return FINE;
        }

        /** What has been marked and now changes must be marked again, or its new OBJECTS are lost. */
        void touch(int n) {
            if (phase == MARKS && cells[n].colour == BLACK) {
                cells[n].colour = GRAY;
            }
        }

        void fullCollection() {
            fullCollections++;
            for (int i = 0; i < CYCLE_BOUND && phase != RESTS; i++) {
                unit();
            }
            unit();
            for (int i = 0; i < CYCLE_BOUND && phase != RESTS; i++) {
                unit();
            }
        }

        void unit() {
            units++;
            if (phase == SWEEPS) {
                sweepOne();
                return;
            }
            int gray = leastGray();
            if (gray >= 0) {
                blacken(cells[gray]);
                return;
            }
            boolean wereWhite = shadeRoots() > 0;
            phase = phase == RESTS || wereWhite ? MARKS : SWEEPS;
        }

        private int leastGray() {
            for (int n = 0; n < OBJECTS; n++) {
                if (cells[n].colour == GRAY) {
                    return n;
                }
            }
            return -1;
        }

        private void blacken(Cell cell) {
            cell.colour = BLACK;
            if (cell.kind == COROUTINE) {
                shadeRow(cell.coroutine.registers, REGISTERS);
                return;
            }
            shadeRow(cell.table.keys, cell.table.pairs);
            shadeRow(cell.table.values, cell.table.pairs);
            if (cell.table.meta >= 0) {
                shade(cells[cell.table.meta]);
            }
        }

        /** Makes the WHITE ROOTS GRAY and answers how many there were. */
        private int shadeRoots() {
            int shaded = shadeRow(globals, GLOBALS);
            for (int n = 0; n < OBJECTS; n++) {
                if (cells[n].isActive()) {
                    shaded += shade(cells[n]);
                    shaded += shadeRow(cells[n].coroutine.registers, REGISTERS);
                }
            }
            return shaded;
        }

        /** Calls nothing, not even shade: it is the deepest of all, below a resume that collects. */
        private int shadeRow(long[] row, int length) {
            int shaded = 0;
            for (int i = 0; i < length; i++) {
                int n = row[i] >= FIRST_OBJECT ? (int) (row[i] - FIRST_OBJECT) : -1;
                if (n >= 0 && cells[n].colour == WHITE) {
                    cells[n].colour = GRAY;
                    shaded++;
                }
            }
            return shaded;
        }

        private static int shade(Cell cell) {
            if (cell.colour != WHITE) {
                return 0;
            }
            cell.colour = GRAY;
            return 1;
        }

        private void sweepOne() {
            Cell cell = cells[sweepFrom];
            if (cell.kind != FREE && cell.colour == WHITE) {
                cell.kind = FREE;
                gone++;
            }
            cell.colour = WHITE;
            sweepFrom++;
            if (sweepFrom == OBJECTS) {
                sweepFrom = 0;
                phase = RESTS;
            }
        }

        int grayOnes() {
            int gray = 0;
            for (int n = 0; n < OBJECTS; n++) {
                if (cells[n].colour == GRAY) {
                    gray++;
                }
            }
            return gray;
        }
    }

    /** The FUNCTIONS and the COROUTINES that are ACTIVE, the first RESUMED at the bottom. */
    private static final class Processor {
        /** One more a FUNCTION than can be coded: number 16, which always stays NOTHING. */
        private static final int STRIDE = INSTRUCTIONS + 1;

        final Heap heap;
        final Instruction[] instructions = new Instruction[FUNCTIONS * STRIDE];
        final Coroutine[] active = new Coroutine[MOST_ACTIVE];
        int depth = 0;
        int begun = 0;
        int nextPlace = 0;
        long outcome = NIL;

        Processor(Heap room) {
            heap = room;
            for (int i = 0; i < FUNCTIONS * STRIDE; i++) {
                instructions[i] = new Instruction();
            }
        }

        Instruction instructionAt(int function, int place) {
            return instructions[function * STRIDE + place];
        }

        int run(long coroutine, long value) {
            int trouble = enter(coroutine, value);
            for (int done = 0; done < MOST_STEPS && trouble == FINE && depth > 0; done++) {
                Coroutine self = active[depth - 1];
                trouble = perform(self, instructionAt(self.function, self.place));
                if (trouble == FINE) {
                    self.place = nextPlace;
                }
            }
            if (trouble == FINE && depth > 0) {
                trouble = TOO_DEEP;
            }
            endActive();
            return trouble;
        }

        private int enter(long coroutine, long value) {
            if (!heap.isA(COROUTINE, coroutine)) {
                return WRONG;
            }
            int n = numberOf(coroutine);
            Coroutine resumed = heap.cells[n].coroutine;
            if (resumed.state == DEAD || resumed.state == ACTIVE) {
                return WRONG;
            }
            if (depth == MOST_ACTIVE) {
                return TOO_DEEP;
            }
            resumed.registers[resumed.comesIn] = value;
            resumed.state = ACTIVE;
            heap.touch(n);
            active[depth] = resumed;
            depth++;
            return FINE;
        }

        /** The topmost one lets go; the one below it has then done its RESUMING. */
        private void leave(long value) {
            depth--;
            if (depth == 0) {
                outcome = value;
                return;
            }
            Coroutine resumer = active[depth - 1];
            resumer.registers[resumer.awaits] = value;
            resumer.place++;
        }

        private void endActive() {
            for (int i = 0; i < depth; i++) {
                active[i].state = DEAD;
            }
            depth = 0;
        }

        private int perform(Coroutine self, Instruction x) {
            if (x.op == NOTHING) {
                return WRONG;
            }
            begun++;
            nextPlace = self.place + 1;
            long[] r = self.registers;
            int a = Math.floorMod(x.a, REGISTERS);
            int b = Math.floorMod(x.b, REGISTERS);
            int c = Math.floorMod(x.c, REGISTERS);
            switch (x.op) {
                case LOAD_NIL: r[a] = NIL; return FINE;
                case LOAD_NUMBER: r[a] = x.c; return FINE;
                case COPY: r[a] = r[b]; return FINE;
                case READ_GLOBAL: r[a] = heap.globals[Math.floorMod(x.c, GLOBALS)]; return FINE;
                case WRITE_GLOBAL: heap.globals[Math.floorMod(x.c, GLOBALS)] = r[a]; return FINE;
                case NEW_TABLE: return keepFound(r, a, heap.create(TABLE, 0));
                case GET_KEY: return keepFound(r, a, heap.getting(r[b], r[c]));
                case SET_KEY: return heap.setting(r[a], r[b], r[c]);
                case ADD:
                case SUBTRACT:
                case MULTIPLY: return calculate(x.op, r, a, r[b], r[c]);
                case JUMP_IF_BELOW: return jumpIfBelow(r[a], r[b], x.c);
                case JUMP: return jumpIf(true, x.c);
                case JUMP_IF_NIL: return jumpIf(r[a] == NIL, x.c);
                case JUMP_IF_ALIKE: return jumpIf(r[a] == r[b], x.c);
                case SET_META: return heap.settingMeta(r[a], r[b]);
                case NEW_COROUTINE:
                    return keepFound(r, a, heap.create(COROUTINE, Math.floorMod(x.c, FUNCTIONS)));
                case RESUME:
                    // It stays here until the outcome comes: there its PLACE is, if trouble does.
                    nextPlace = self.place;
                    self.awaits = a;
                    return enter(r[b], r[c]);
                case YIELD:
                    self.state = YIELDED;
                    self.comesIn = a;
                    leave(r[a]);
                    return FINE;
                case RETURN:
                    self.state = DEAD;
                    leave(r[a]);
                    return FINE;
                case NEXT_KEY: return keepFound(r, a, heap.keyAfter(r[b], r[c]));
                case HOW_MANY: return keepFound(r, a, heap.howMany(r[b]));
                default: return WRONG;
            }
        }

        private int keepFound(long[] registers, int a, int trouble) {
            if (trouble == FINE) {
                registers[a] = heap.found;
            }
            return trouble;
        }

        private static int calculate(int op, long[] registers, int a, long left, long right) {
            if (!isNumber(left) || !isNumber(right)) {
                return WRONG;
            }
            int x = (int) left;
            int y = (int) right;
            registers[a] = op == ADD ? x + y : op == SUBTRACT ? x - y : x * y;
            return FINE;
        }

        private int jumpIfBelow(long left, long right, int place) {
            if (!isNumber(left) || !isNumber(right)) {
                return WRONG;
            }
            return jumpIf(left < right, place);
        }

        private int jumpIf(boolean holds, int place) {
            if (holds) {
                nextPlace = Math.floorMod(place, INSTRUCTIONS);
            }
            return FINE;
        }
    }
}
