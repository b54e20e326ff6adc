import java.util.ArrayList;
import java.util.List;
import java.util.function.LongSupplier;

/**
 * All promises: long runs of calls, the same on a TriColourMachine and on the Model; after each
 * call all that can be seen must be the same. The draws are the same every time.
 */
public final class AgainstModelTest {
    private static final int RUNS = 600;

    /** As many as the document allows an object; what is looked at between them comes on top. */
    private static final int CALLS = 512;
    private static final int[] ODD = {-1, 6, 16, 4, 22, -2, 101, Told.MIN, Told.MAX};

    private final Check check;
    private final int run;
    private final TriColourMachine real = new TriColourMachine();
    private final Model model = new Model();
    private final List<String> calls = new ArrayList<>();
    private long seed;
    private boolean same = true;

    private AgainstModelTest(Check check, int run) {
        this.check = check;
        this.run = run;
        this.seed = run * 7919L + 17;
    }

    public static void main(String[] args) {
        Check check = new Check("AgainstModelTest");
        int[] seen = new int[5];
        for (int run = 0; run < RUNS; run++) {
            new AgainstModelTest(check, run).go(seen);
        }
        String[] names = {"answers", "bad ones", "wrong ones", "too deep or no room", "collections within a resume"};
        for (int i = 0; i < seen.length; i++) {
            check.holds("enough " + names[i] + ": " + seen[i], seen[i] > 500);
        }
        check.end();
    }

    private int below(int n) {
        seed = seed * 6364136223846793005L + 1442695040888963407L;
        return (int) ((seed >>> 33) % n);
    }

    private int odd() {
        return ODD[below(ODD.length)];
    }

    private int global() {
        return below(150) == 0 ? odd() : below(6);
    }

    /** Mostly a GLOBAL of this kind, if there is one: else most calls would just be WRONG. */
    private int global(Class<?> kind) {
        int from = below(6);
        for (int i = 0; i < 6 && below(20) > 0; i++) {
            if (kind.isInstance(model.globals[(from + i) % 6])) {
                return (from + i) % 6;
            }
        }
        return global();
    }

    private void go(int[] seen) {
        for (int i = 0; i < 4; i++) {
            function(i);
        }
        for (int call = calls.size(); call < CALLS && same; call++) {
            int fulls = model.fulls;
            boolean resumed = one(seen);
            if (resumed && model.fulls > fulls) {
                seen[4]++;
            }
            compare();
        }
        check.holds("run " + run + ": " + calls, same);
    }

    /** REGISTER 1 is mostly a TABLE, 2 a NUMBER and 3 a COROUTINE. */
    private void function(int f) {
        coded(f, 0, 5, 1, 0, 0);
        coded(f, 1, 1, 2, 0, below(3));
        coded(f, 2, 16, 3, 0, below(4));
        int length = 6 + below(10);
        for (int i = 3; i < length; i++) {
            code(f, i);
        }
        coded(f, length, 12, 0, 0, below(length));
    }

    private void code(int f, int i) {
        int n = below(16);
        int any = below(4);
        int other = below(4);
        switch (below(26)) {
            case 0 -> coded(f, i, 0, any, 0, 0);
            case 1 -> coded(f, i, 1, below(2) * 2, 0, below(3));
            case 2 -> coded(f, i, 2, 0, any, 0);
            case 3, 4 -> coded(f, i, 3, any, 0, n);
            case 5, 6 -> coded(f, i, 4, any, 0, n);
            case 7, 8, 9 -> coded(f, i, 5, 1, 0, 0);
            case 10 -> coded(f, i, 6, 0, 1, any);
            case 11, 12, 13 -> coded(f, i, 7, 1, any, other);
            case 14 -> coded(f, i, 8 + below(3), 2, 2, 2);
            case 15 -> coded(f, i, 11, 2, any, n);
            case 16 -> coded(f, i, 13 + below(2), any, other, n);
            case 17 -> coded(f, i, 15, 1, below(2), 0);
            case 18, 19 -> coded(f, i, 16, 3, 0, n);
            case 20, 21 -> coded(f, i, 17, 0, 3, any);
            case 22, 23 -> coded(f, i, 18, any, 0, 0);
            case 24 -> coded(f, i, 20 + below(2), 0, 1, 0);
            default -> coded(f, i, below(23) - 1, below(2) == 0 ? any : odd(), other, below(2) == 0 ? n : odd());
        }
    }

    private void coded(int f, int i, int op, int a, int b, int c) {
        same("code " + f + " " + i + " " + op + " " + a + " " + b + " " + c, new int[5], () -> {
            real.code(f, i, op, a, b, c);
            return 0;
        }, () -> model.code(f, i, op, a, b, c));
    }

    /** One drawn call; true if it is a resume. */
    private boolean one(int[] seen) {
        int kind = below(100);
        int p = global(kind < 26 ? Model.Table.class : kind < 50 ? Model.Coroutine.class : Object.class);
        int q = global(kind >= 18 && kind < 26 ? Model.Table.class : Object.class);
        int r = global();
        if (kind < 12) {
            same("set " + p + " " + q + " " + r, seen, () -> {
                real.set(p, q, r);
                return 0;
            }, () -> model.set(p, q, r));
        } else if (kind < 18) {
            same("get " + p + " " + q + " " + r, seen, () -> real.get(p, q, r), () -> model.get(p, q, r));
        } else if (kind < 26) {
            same("meta " + p + " " + q, seen, () -> {
                real.meta(p, q);
                return 0;
            }, () -> model.meta(p, q));
        } else if (kind < 50) {
            same("resume " + p + " " + q + " " + r, seen, () -> real.resume(p, q, r), () -> model.resume(p, q, r));
            return true;
        } else {
            other(kind, p, q, seen);
        }
        return false;
    }

    private void other(int kind, int p, int q, int[] seen) {
        if (kind < 70) {
            int f = below(60) == 0 ? odd() : below(8) - 1;
            int function = f > 3 && f < 7 ? -1 : f;
            same("make " + p + " " + function, seen, () -> real.make(p, function), () -> model.make(p, function));
        } else if (kind < 76) {
            int v = below(20) == 0 ? odd() : below(3);
            same("number " + p + " " + v, seen, () -> {
                real.number(p, v);
                return 0;
            }, () -> model.number(p, v));
        } else if (kind < 80) {
            int h = below(3) == 0 ? -1 : q;
            same("move " + p + " " + h, seen, () -> {
                real.move(p, h);
                return 0;
            }, () -> model.move(p, h));
        } else if (kind < 94) {
            int n = below(40) == 0 ? odd() : 1 + below(below(4) == 0 ? 100 : 5);
            same("collect " + n, seen, () -> real.collect(n), () -> model.collect(n));
        } else if (kind < 96) {
            same("full", seen, () -> real.full(), () -> model.full());
        } else {
            code(below(4), below(16));
        }
    }

    private void same(String call, int[] seen, LongSupplier ofReal, LongSupplier ofModel) {
        calls.add(call);
        String due = told(ofModel);
        String got = told(ofReal);
        seen[due.contains("Argument") ? 1 : due.contains("Unsupported") ? 2 : due.contains("State") ? 3 : 0]++;
        if (!due.equals(got)) {
            same = false;
            calls.add("answered " + got + ", due is " + due);
        }
    }

    private static String told(LongSupplier call) {
        try {
            return Long.toString(call.getAsLong());
        } catch (RuntimeException e) {
            return e.getClass().getSimpleName();
        }
    }

    /** Only what is there: thousands of exceptions would be slow, and LookTest has the edges. */
    private void compare() {
        for (int i = 0; i < 9; i++) {
            int k = i;
            look("count " + i, () -> real.count(k), () -> model.count(k));
        }
        for (int g = 0; g < 6; g++) {
            int k = g;
            look("global " + g, () -> real.global(k), () -> model.global(k));
        }
        for (int n = 0; n < 16 && same; n++) {
            int k = n;
            look("object " + n, () -> real.object(k, 0), () -> model.object(k, 0));
            if (same && model.object(n, 0) != 0) {
                inside(n);
            }
        }
    }

    private void inside(int n) {
        for (int what = 1; what < 4; what++) {
            int w = what;
            look("object " + n + " " + what, () -> real.object(n, w), () -> model.object(n, w));
        }
        boolean table = model.object(n, 0) == 1;
        int rows = table ? (int) model.object(n, 2) : 4;
        for (int i = 0; i < rows; i++) {
            int k = i;
            look("inside " + n + " " + i, () -> real.inside(n, k, false), () -> model.inside(n, k, false));
            if (table) {
                look("value " + n + " " + i, () -> real.inside(n, k, true), () -> model.inside(n, k, true));
            }
        }
    }

    private void look(String what, LongSupplier ofReal, LongSupplier ofModel) {
        String due = told(ofModel);
        String got = told(ofReal);
        if (same && !due.equals(got)) {
            same = false;
            calls.add(what + " answered " + got + ", due is " + due);
        }
    }
}
