/** Promises 13, 14 and 15. */
public final class LookTest {
    public static void main(String[] args) {
        Check check = new Check("LookTest");
        objects(check);
        badObjects(check);
        insideTables(check);
        insideCoroutines(check);
        badInside(check);
        counts(check);
        goneButReferredTo(check);
        check.end();
    }

    private static void objects(Check check) {
        TriColourMachine m = Told.machine(Told.op(18, 0, 0, 0), Told.op(19, 0, 0, 0));
        check.same("a coroutine", 2, m.object(0, 0));
        check.same("white", 0, m.object(0, 1));
        check.same("at 0", 0, m.object(0, 2));
        check.same("fresh", 0, m.object(0, 3));
        m.resume(0, 0, 1);
        check.same("at 1", 1, m.object(0, 2));
        check.same("yielded", 1, m.object(0, 3));
        m.resume(0, 0, 1);
        check.same("at 2", 2, m.object(0, 2));
        check.same("dead", 3, m.object(0, 3));
        m.make(2, -1);
        Told.put(m, 2, 1, 1);
        Told.put(m, 2, 2, 2);
        check.same("a table", 1, m.object(1, 0));
        check.same("pairs", 2, m.object(1, 2));
        check.same("no meta", -1, m.object(1, 3));
        m.make(3, -1);
        m.meta(2, 3);
        check.same("a meta", 2, m.object(1, 3));
    }

    private static void badObjects(Check check) {
        TriColourMachine m = new TriColourMachine();
        m.make(0, -1);
        for (int n : new int[] {-1, 16, Told.MIN, Told.MAX}) {
            for (int what = -1; what <= 4; what++) {
                int w = what;
                check.throwsA("object " + n + " " + w, Check.BAD, () -> m.object(n, w));
            }
        }
        for (int what : new int[] {-1, 4, Told.MIN, Told.MAX}) {
            check.throwsA("what " + what, Check.BAD, () -> m.object(0, what));
            check.throwsA("what " + what + " of a free one", Check.BAD, () -> m.object(1, what));
        }
        for (int n = 1; n < 16; n++) {
            int free = n;
            check.same("free " + n, 0, m.object(n, 0));
            for (int what = 1; what <= 3; what++) {
                int w = what;
                check.throwsA("free " + free + " " + w, Check.ABSENT, () -> m.object(free, w));
            }
        }
    }

    private static void insideTables(Check check) {
        TriColourMachine m = new TriColourMachine();
        m.make(0, -1);
        m.make(1, 0);
        check.throwsA("no pair", Check.ABSENT, () -> m.inside(0, 0, false));
        check.throwsA("no pair's value", Check.ABSENT, () -> m.inside(0, 0, true));
        Told.put(m, 0, -3, Told.MIN);
        m.set(0, 1, 0);
        check.same("key 0", -3, m.inside(0, 0, false));
        check.same("value 0", Told.MIN, m.inside(0, 0, true));
        check.same("key 1", Told.object(1), m.inside(0, 1, false));
        check.same("value 1", Told.object(0), m.inside(0, 1, true));
        for (int i : new int[] {2, 5, 6, 7, Told.MAX}) {
            check.throwsA("key " + i, Check.ABSENT, () -> m.inside(0, i, false));
            check.throwsA("value " + i, Check.ABSENT, () -> m.inside(0, i, true));
        }
    }

    private static void insideCoroutines(Check check) {
        TriColourMachine m = Told.machine(Told.op(1, 3, 0, 8), Told.op(5, 1, 0, 0), Told.op(18, 2, 0, 0));
        for (int i = 0; i < 4; i++) {
            check.same("register " + i, Told.NIL, m.inside(0, i, false));
        }
        m.number(1, 5);
        m.resume(0, 1, 2);
        check.same("register 0", 5, m.inside(0, 0, false));
        check.same("register 1", Told.object(1), m.inside(0, 1, false));
        check.same("register 2", Told.NIL, m.inside(0, 2, false));
        check.same("register 3", 8, m.inside(0, 3, false));
        for (int i = 0; i < 6; i++) {
            int k = i;
            check.throwsA("value " + i, Check.ABSENT, () -> m.inside(0, k, true));
        }
        for (int i : new int[] {4, 5, 6, Told.MAX}) {
            check.throwsA("register " + i, Check.ABSENT, () -> m.inside(0, i, false));
        }
    }

    private static void badInside(Check check) {
        TriColourMachine m = new TriColourMachine();
        m.make(0, -1);
        for (int n : new int[] {-1, 16, Told.MIN, Told.MAX}) {
            check.throwsA("inside " + n, Check.BAD, () -> m.inside(n, 0, false));
            check.throwsA("inside " + n + " far", Check.BAD, () -> m.inside(n, 99, true));
        }
        for (int i : new int[] {-1, Told.MIN}) {
            check.throwsA("below 0: " + i, Check.BAD, () -> m.inside(0, i, false));
            check.throwsA("below 0 of a free one: " + i, Check.BAD, () -> m.inside(1, i, true));
        }
        check.throwsA("a free one", Check.ABSENT, () -> m.inside(1, 0, false));
        check.throwsA("a free one's value", Check.ABSENT, () -> m.inside(15, 0, true));
    }

    private static void counts(Check check) {
        TriColourMachine m = Told.machine(Told.op(0, 0, 0, 0), Told.op(19, 0, 0, 0));
        m.make(1, -1);
        m.make(1, -1);
        m.resume(0, 2, 2);
        m.full();
        m.collect(2);
        long[] want = {2, 1, 0, 3, 1, 2, 1, 18 + 2 + 2, 1};
        for (int what = 0; what < want.length; what++) {
            check.same("count " + what, want[what], m.count(what));
        }
        m.collect(6);
        check.same("it sweeps", 2, m.count(1));
        check.same("from 4", 4, m.count(2));
        check.same("no gray ones", 0, m.count(6));
        for (int what : new int[] {-1, 9, 10, Told.MIN, Told.MAX}) {
            check.same("count " + what, -1, m.count(what));
        }
    }

    /** What is not yet swept may still name what has gone before it. */
    private static void goneButReferredTo(Check check) {
        TriColourMachine m = new TriColourMachine();
        m.make(0, -1);
        m.make(1, -1);
        m.meta(1, 0);
        m.set(1, 0, 0);
        m.move(0, -1);
        m.move(1, -1);
        check.same("the first goes", 1, m.collect(3));
        check.same("the second's meta", 0, m.object(1, 3));
        check.same("its key", Told.object(0), m.inside(1, 0, false));
        check.same("its value", Told.object(0), m.inside(1, 0, true));
        check.same("and it goes", 1, m.collect(1));
    }
}
