/** Promise 5. */
public final class MakeTest {
    public static void main(String[] args) {
        Check check = new Check("MakeTest");
        kinds(check);
        leastFree(check);
        colours(check);
        collectsWhenFull(check);
        noRoom(check);
        usedAgainIsNew(check);
        bad(check);
        check.end();
    }

    private static void kinds(Check check) {
        TriColourMachine m = new TriColourMachine();
        check.same("a table", 0, m.make(2, -1));
        check.same("in global 2", Told.object(0), m.global(2));
        check.same("it is a table", 1, m.object(0, 0));
        check.same("without pairs", 0, m.object(0, 2));
        check.same("without meta", -1, m.object(0, 3));
        for (int f = 0; f < 4; f++) {
            m.code(f, 0, 1, 0, 0, 100 + f);
            m.code(f, 1, 19, 0, 0, 0);
            check.same("a coroutine", f + 1, m.make(0, f));
            check.same("it is one", 2, m.object(f + 1, 0));
            check.same("it is fresh", 0, m.object(f + 1, 3));
            check.same("at 0", 0, m.object(f + 1, 2));
            check.same("of its function", 100 + f, m.resume(0, 0, 1));
        }
        check.same("made", 5, m.count(3));
    }

    private static void leastFree(Check check) {
        TriColourMachine m = new TriColourMachine();
        m.make(0, -1);
        m.make(1, -1);
        m.make(2, -1);
        m.make(3, -1);
        m.move(1, -1);
        m.move(2, -1);
        check.same("two go", 2, m.full());
        check.same("the least", 1, m.make(4, 0));
        check.same("the next", 2, m.make(4, 0));
        check.same("the next behind", 4, m.make(4, 0));
    }

    private static void colours(Check check) {
        TriColourMachine m = new TriColourMachine();
        m.make(0, -1);
        check.same("resting: white", 0, m.object(0, 1));
        m.collect(1);
        m.make(1, -1);
        check.same("marking: black", 2, m.object(1, 1));
        m.make(2, 3);
        check.same("marking: a black coroutine", 2, m.object(2, 1));
        m.collect(2);
        check.same("sweeping", 2, m.count(1));
        m.make(3, -1);
        check.same("sweeping, not below: black", 2, m.object(3, 1));
        m.collect(5);
        check.same("sweeps from 5", 5, m.count(2));
        m.make(4, -1);
        check.same("sweeping, below: white", 0, m.object(4, 1));
        m.make(5, -1);
        check.same("sweeping, at it: black", 2, m.object(5, 1));
        m.collect(1);
        check.same("swept: white", 0, m.object(5, 1));
    }

    private static void collectsWhenFull(Check check) {
        TriColourMachine m = new TriColourMachine();
        for (int n = 0; n < 16; n++) {
            check.same("make", n, m.make(n % 6, -1));
        }
        check.same("no full collection yet", 0, m.count(8));
        m.collect(1);
        check.same("the least that went", 0, m.make(0, 2));
        check.same("a full collection", 1, m.count(8));
        check.same("it rests", 0, m.count(1));
        check.same("white", 0, m.object(0, 1));
        check.same("what global 0 had is kept", 1, m.object(12, 0));
        check.same("there", 7, m.count(0));
        check.same("gone", 10, m.count(4));
    }

    private static void noRoom(Check check) {
        TriColourMachine m = new TriColourMachine();
        m.make(0, -1);
        for (int n = 1; n < 16; n++) {
            // A chain: each is the META of the next, so that all are referred to.
            m.make(1, -1);
            m.meta(1, 0);
            m.move(0, 1);
        }
        m.number(2, 6);
        m.collect(1);
        check.throwsA("a seventeenth", Check.NO, () -> m.make(2, -1));
        check.throwsA("a coroutine", Check.NO, () -> m.make(2, 0));
        check.same("the global is as it was", 6, m.global(2));
        check.same("full collections", 2, m.count(8));
        check.same("it rests", 0, m.count(1));
        check.same("made", 16, m.count(3));
        check.same("there", 16, m.count(0));
        check.throwsA("bad comes first", Check.BAD, () -> m.make(6, 0));
        check.same("and nothing is collected", 2, m.count(8));
    }

    private static void usedAgainIsNew(Check check) {
        TriColourMachine m = Told.machine(Told.op(18, 3, 0, 0));
        m.number(1, 5);
        m.resume(0, 1, 2);
        m.make(3, -1);
        m.meta(3, 3);
        Told.put(m, 3, 1, 2);
        m.move(0, -1);
        m.move(3, -1);
        check.same("both go", 2, m.full());
        m.make(0, 0);
        m.make(3, -1);
        check.same("fresh", 0, m.object(0, 3));
        check.same("at 0", 0, m.object(0, 2));
        check.same("register 0", Told.NIL, m.inside(0, 0, false));
        check.same("no pairs", 0, m.object(1, 2));
        check.same("no meta", -1, m.object(1, 3));
        m.number(1, 6);
        m.resume(0, 1, 2);
        check.same("the value comes into register 0", 6, m.inside(0, 0, false));
        check.same("not into 3", Told.NIL, m.inside(0, 3, false));
    }

    private static void bad(Check check) {
        TriColourMachine m = new TriColourMachine();
        for (int g : new int[] {-1, 6, Told.MIN, Told.MAX}) {
            check.throwsA("global " + g, Check.BAD, () -> m.make(g, -1));
        }
        for (int f : new int[] {-2, 4, Told.MIN, Told.MAX}) {
            check.throwsA("function " + f, Check.BAD, () -> m.make(0, f));
        }
        check.same("nothing was made", 0, m.count(3));
        check.same("global 0", Told.NIL, m.global(0));
    }
}
