import java.util.ArrayList;
import java.util.List;
import java.util.NoSuchElementException;
import java.util.TreeSet;

/**
 * The document once more, in another way: objects that refer to objects, RESUMING and GETTING as
 * recursion, and exceptions for TROUBLE. It is made to be compared with, not to be fast or small.
 */
final class Model {
    /** A TABLE or a COROUTINE. */
    static class Thing {
        int number;
        int colour;
    }

    static final class Table extends Thing {
        final List<Object> keys = new ArrayList<>();
        final List<Object> values = new ArrayList<>();
        Table meta;

        Object own(Object key) {
            for (int i = 0; i < keys.size(); i++) {
                if (alike(keys.get(i), key)) {
                    return values.get(i);
                }
            }
            return null;
        }
    }

    static final class Coroutine extends Thing {
        final Object[] registers = new Object[4];
        int function;
        int place;
        int state;
        int yieldRegister;
    }

    final Object[] globals = new Object[6];
    final Thing[] things = new Thing[16];
    final int[][][] code = new int[4][16][];
    final List<Coroutine> active = new ArrayList<>();
    int phase;
    int sweepAt;
    int made;
    int gone;
    int begun;
    int units;
    int fulls;
    int left;

    static boolean alike(Object a, Object b) {
        return a instanceof Integer && b instanceof Integer ? a.equals(b) : a == b;
    }

    static long told(Object v) {
        if (v == null) {
            return -1_000_000_000_000L;
        }
        return v instanceof Integer ? (Integer) v : 10_000_000_000L + ((Thing) v).number;
    }

    private static void range(int n, int from, int to) {
        if (n < from || n > to) {
            throw new IllegalArgumentException();
        }
    }

    private static Table table(Object v) {
        if (v instanceof Table) {
            return (Table) v;
        }
        throw new UnsupportedOperationException();
    }

    private static int integer(Object v) {
        if (v instanceof Integer) {
            return (Integer) v;
        }
        throw new UnsupportedOperationException();
    }

    // The face.

    long code(int f, int i, int op, int a, int b, int c) {
        range(f, 0, 3);
        range(i, 0, 15);
        range(op, -1, 21);
        code[f][i] = op == -1 ? null : new int[] {op, a, b, c};
        return 0;
    }

    long number(int g, int v) {
        range(g, 0, 5);
        globals[g] = v;
        return 0;
    }

    long move(int g, int h) {
        range(g, 0, 5);
        range(h, -1, 5);
        globals[g] = h == -1 ? null : globals[h];
        return 0;
    }

    long make(int g, int function) {
        range(g, 0, 5);
        range(function, -1, 3);
        Thing thing = newThing(function);
        globals[g] = thing;
        return thing.number;
    }

    long set(int t, int k, int v) {
        range(t, 0, 5);
        range(k, 0, 5);
        range(v, 0, 5);
        setting(table(globals[t]), globals[k], globals[v], 1);
        return 0;
    }

    long get(int t, int k, int to) {
        range(t, 0, 5);
        range(k, 0, 5);
        range(to, 0, 5);
        globals[to] = getting(table(globals[t]), globals[k], 1);
        return told(globals[to]);
    }

    long meta(int t, int m) {
        range(t, 0, 5);
        range(m, 0, 5);
        settingMeta(globals[t], globals[m]);
        return 0;
    }

    long resume(int g, int v, int to) {
        range(g, 0, 5);
        range(v, 0, 5);
        range(to, 0, 5);
        left = 200;
        try {
            globals[to] = resuming(globals[g], globals[v]);
        } catch (RuntimeException trouble) {
            for (Coroutine one : active) {
                one.state = 3;
            }
            active.clear();
            throw trouble;
        }
        return told(globals[to]);
    }

    long collect(int n) {
        range(n, 1, 100);
        int before = gone;
        for (int i = 0; i < n; i++) {
            unit();
        }
        return gone - before;
    }

    long full() {
        int before = gone;
        fullCollection();
        return gone - before;
    }

    long global(int g) {
        range(g, 0, 5);
        return told(globals[g]);
    }

    long object(int n, int what) {
        range(n, 0, 15);
        range(what, 0, 3);
        Thing thing = things[n];
        if (what == 0) {
            return thing == null ? 0 : thing instanceof Table ? 1 : 2;
        }
        if (thing == null) {
            throw new NoSuchElementException();
        }
        if (what == 1) {
            return thing.colour;
        }
        if (thing instanceof Table) {
            Table table = (Table) thing;
            return what == 2 ? table.keys.size() : table.meta == null ? -1 : table.meta.number;
        }
        Coroutine coroutine = (Coroutine) thing;
        return what == 2 ? coroutine.place : coroutine.state;
    }

    long inside(int n, int i, boolean value) {
        range(n, 0, 15);
        range(i, 0, Integer.MAX_VALUE);
        Thing thing = things[n];
        if (thing instanceof Table && i < ((Table) thing).keys.size()) {
            return told((value ? ((Table) thing).values : ((Table) thing).keys).get(i));
        }
        if (thing instanceof Coroutine && !value && i < 4) {
            return told(((Coroutine) thing).registers[i]);
        }
        throw new NoSuchElementException();
    }

    long count(int what) {
        int there = 0;
        int gray = 0;
        for (Thing thing : things) {
            there += thing == null ? 0 : 1;
            gray += thing != null && thing.colour == 1 ? 1 : 0;
        }
        int[] all = {there, phase, phase == 2 ? sweepAt : 0, made, gone, begun, gray, units, fulls};
        return what < 0 || what >= all.length ? -1 : all[what];
    }

    // GETTING, SETTING.

    private Object getting(Table table, Object key, int depth) {
        if (key == null) {
            return null;
        }
        if (depth > 5) {
            throw new IllegalStateException();
        }
        Object own = table.own(key);
        if (own != null) {
            return own;
        }
        Object further = table.meta == null ? null : table.meta.own(0);
        return further instanceof Table ? getting((Table) further, key, depth + 1) : null;
    }

    private void setting(Table table, Object key, Object value, int depth) {
        if (key == null) {
            throw new UnsupportedOperationException();
        }
        if (depth > 5) {
            throw new IllegalStateException();
        }
        boolean has = table.own(key) != null;
        Object further = table.meta == null ? null : table.meta.own(1);
        if (!has && further instanceof Table) {
            setting((Table) further, key, value, depth + 1);
            return;
        }
        if (!has && value == null) {
            return;
        }
        if (!has && table.keys.size() == 6) {
            throw new IllegalStateException();
        }
        if (!has) {
            table.keys.add(key);
            table.values.add(value);
        } else {
            replace(table, key, value);
        }
        changed(table);
    }

    private static void replace(Table table, Object key, Object value) {
        for (int i = table.keys.size() - 1; i >= 0; i--) {
            if (alike(table.keys.get(i), key) && value == null) {
                table.keys.remove(i);
                table.values.remove(i);
            } else if (alike(table.keys.get(i), key)) {
                table.values.set(i, value);
            }
        }
    }

    private void settingMeta(Object t, Object m) {
        Table table = table(t);
        table.meta = m == null ? null : table(m);
        changed(table);
    }

    private Object keyAfter(Table table, Object key) {
        int at = -1;
        for (int i = 0; i < table.keys.size() && key != null; i++) {
            if (alike(table.keys.get(i), key)) {
                at = i;
            }
        }
        if (key != null && at < 0) {
            throw new UnsupportedOperationException();
        }
        return at + 1 < table.keys.size() ? table.keys.get(at + 1) : null;
    }

    // RESUMING.

    private Object resuming(Object v, Object in) {
        if (!(v instanceof Coroutine)) {
            throw new UnsupportedOperationException();
        }
        Coroutine self = (Coroutine) v;
        if (self.state == 2 || self.state == 3) {
            throw new UnsupportedOperationException();
        }
        if (active.size() == 5) {
            throw new IllegalStateException();
        }
        self.registers[self.state == 0 ? 0 : self.yieldRegister] = in;
        self.state = 2;
        changed(self);
        active.add(self);
        while (self.state == 2) {
            if (left == 0) {
                throw new IllegalStateException();
            }
            if (self.place == 16 || code[self.function][self.place] == null) {
                throw new UnsupportedOperationException();
            }
            left--;
            begun++;
            self.place = step(self, code[self.function][self.place]);
        }
        active.remove(self);
        return out;
    }

    private Object out;

    private static int mod(int n, int m) {
        return ((n % m) + m) % m;
    }

    /** Answers the PLACE that comes then. */
    private int step(Coroutine self, int[] x) {
        Object[] r = self.registers;
        int a = mod(x[1], 4);
        Object av = r[a];
        Object bv = r[mod(x[2], 4)];
        Object cv = r[mod(x[3], 4)];
        int n = x[3];
        int next = self.place + 1;
        switch (x[0]) {
            case 0 -> r[a] = null;
            case 1 -> r[a] = n;
            case 2 -> r[a] = bv;
            case 3 -> r[a] = globals[mod(n, 6)];
            case 4 -> globals[mod(n, 6)] = av;
            case 5 -> r[a] = newThing(-1);
            case 6 -> r[a] = getting(table(bv), cv, 1);
            case 7 -> setting(table(av), bv, cv, 1);
            case 8 -> r[a] = integer(bv) + integer(cv);
            case 9 -> r[a] = integer(bv) - integer(cv);
            case 10 -> r[a] = integer(bv) * integer(cv);
            case 11 -> next = integer(av) < integer(bv) ? mod(n, 16) : next;
            case 12 -> next = mod(n, 16);
            case 13 -> next = av == null ? mod(n, 16) : next;
            case 14 -> next = alike(av, bv) ? mod(n, 16) : next;
            case 15 -> settingMeta(av, bv);
            case 16 -> r[a] = newThing(mod(n, 4));
            case 17 -> r[a] = resuming(bv, cv);
            case 18 -> {
                self.state = 1;
                self.yieldRegister = a;
                out = av;
            }
            case 19 -> {
                self.state = 3;
                out = av;
            }
            case 20 -> r[a] = keyAfter(table(bv), cv);
            default -> r[a] = table(bv).keys.size();
        }
        return next;
    }

    // THE COLLECTOR.

    private Thing newThing(int function) {
        if (free() == 16) {
            fullCollection();
        }
        int n = free();
        if (n == 16) {
            throw new IllegalStateException();
        }
        Thing thing = function < 0 ? new Table() : new Coroutine();
        if (thing instanceof Coroutine) {
            ((Coroutine) thing).function = function;
        }
        thing.number = n;
        thing.colour = phase == 1 ? 2 : phase == 2 && n >= sweepAt ? 2 : 0;
        things[n] = thing;
        made++;
        return thing;
    }

    private int free() {
        int n = 0;
        while (n < 16 && things[n] != null) {
            n++;
        }
        return n;
    }

    private void changed(Thing thing) {
        if (phase == 1 && thing.colour == 2) {
            thing.colour = 1;
        }
    }

    private void fullCollection() {
        fulls++;
        while (phase != 0) {
            unit();
        }
        do {
            unit();
        } while (phase != 0);
    }

    private List<Object> roots() {
        List<Object> all = new ArrayList<>(java.util.Arrays.asList(globals));
        for (Coroutine one : active) {
            all.add(one);
            all.addAll(java.util.Arrays.asList(one.registers));
        }
        return all;
    }

    /** The numbers of the WHITE ones among them; they are made GRAY. */
    private static TreeSet<Integer> shade(List<Object> values) {
        TreeSet<Integer> shaded = new TreeSet<>();
        for (Object v : values) {
            if (v instanceof Thing && ((Thing) v).colour == 0) {
                ((Thing) v).colour = 1;
                shaded.add(((Thing) v).number);
            }
        }
        return shaded;
    }

    private static List<Object> refers(Thing thing) {
        if (thing instanceof Coroutine) {
            return java.util.Arrays.asList(((Coroutine) thing).registers);
        }
        Table table = (Table) thing;
        List<Object> all = new ArrayList<>(table.keys);
        all.addAll(table.values);
        all.add(table.meta);
        return all;
    }

    private Thing leastGray() {
        for (Thing thing : things) {
            if (thing != null && thing.colour == 1) {
                return thing;
            }
        }
        return null;
    }

    private void unit() {
        units++;
        switch (phase) {
            case 0 -> {
                shade(roots());
                phase = 1;
            }
            case 1 -> {
                Thing gray = leastGray();
                if (gray != null) {
                    gray.colour = 2;
                    shade(refers(gray));
                } else if (shade(roots()).isEmpty()) {
                    phase = 2;
                    sweepAt = 0;
                }
            }
            default -> sweep();
        }
    }

    private void sweep() {
        Thing thing = things[sweepAt];
        if (thing != null && thing.colour == 0) {
            things[sweepAt] = null;
            gone++;
        } else if (thing != null && thing.colour == 2) {
            thing.colour = 0;
        }
        sweepAt++;
        if (sweepAt == 16) {
            phase = 0;
        }
    }
}
