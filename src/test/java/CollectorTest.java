/** Promises 10 and 11: UNITS, colours, what goes and what stays. */
public final class CollectorTest {
    public static void main(String[] args) {
        Check check = new Check("CollectorTest");
        unitsOfNothing(check);
        marksTheLeast(check);
        whatItRefersTo(check);
        lateRoots(check);
        changedTables(check);
        unchangedTables(check);
        onlyWhileMarking(check);
        metaSet(check);
        resumedCoroutines(check);
        sweeps(check);
        full(check);
        fullFromTheMiddle(check);
        rings(check);
        bad(check);
        check.end();
    }

    private static void unitsOfNothing(Check check) {
        TriColourMachine m = new TriColourMachine();
        check.same("one", 0, m.collect(1));
        check.same("it marks, even without roots", 1, m.count(1));
        m.collect(1);
        check.same("it sweeps", 2, m.count(1));
        check.same("from 0", 0, m.count(2));
        m.collect(15);
        check.same("from 15", 15, m.count(2));
        m.collect(1);
        check.same("it rests", 0, m.count(1));
        check.same("no number then", 0, m.count(2));
        check.same("units", 18, m.count(7));
        m.collect(100);
        check.same("units", 118, m.count(7));
        check.same("no full collection", 0, m.count(8));
    }

    private static void marksTheLeast(Check check) {
        TriColourMachine m = new TriColourMachine();
        m.make(0, -1);
        m.make(1, -1);
        m.make(2, 0);
        m.move(1, -1);
        m.collect(1);
        colours(check, "roots", m, 1, 0, 1);
        check.same("gray ones", 2, m.count(6));
        m.collect(1);
        colours(check, "the least", m, 2, 0, 1);
        m.collect(1);
        colours(check, "the next", m, 2, 0, 2);
        check.same("it marks", 1, m.count(1));
        m.collect(1);
        check.same("it sweeps", 2, m.count(1));
        check.same("nothing goes", 0, m.collect(1));
        colours(check, "swept", m, 0, 0, 2);
        check.same("one goes", 1, m.collect(1));
        check.same("it is free", 0, m.object(1, 0));
        check.same("gone", 1, m.count(4));
        check.same("there", 2, m.count(0));
    }

    private static void colours(Check check, String text, TriColourMachine m, int... want) {
        for (int n = 0; n < want.length; n++) {
            check.same(text + ": colour of " + n, want[n], m.object(n, 1));
        }
    }

    private static void whatItRefersTo(Check check) {
        TriColourMachine m = new TriColourMachine();
        for (int g = 0; g < 5; g++) {
            m.make(g, g == 4 ? 0 : -1);
        }
        m.set(0, 1, 2);
        m.meta(0, 3);
        m.set(3, 4, 4);
        for (int g = 1; g < 5; g++) {
            m.move(g, -1);
        }
        m.collect(2);
        colours(check, "key, value and meta", m, 2, 1, 1, 1, 0);
        m.collect(3);
        colours(check, "the meta's own", m, 2, 2, 2, 2, 1);
        check.same("nothing goes", 0, m.collect(40));
        check.same("all there", 5, m.count(0));
        TriColourMachine other = Told.machine(Told.op(2, 3, 0, 0), Told.op(5, 1, 0, 0),
            Told.op(0, 0, 0, 0), Told.op(19, 2, 0, 0));
        other.make(1, -1);
        other.resume(0, 1, 2);
        other.move(1, -1);
        other.collect(2);
        colours(check, "a dead coroutine's registers", other, 2, 1, 1);
    }

    private static void lateRoots(Check check) {
        TriColourMachine m = new TriColourMachine();
        m.make(0, -1);
        m.make(1, -1);
        Told.link(m, 1, 9, 0);
        m.move(0, -1);
        m.collect(1);
        m.number(5, 9);
        m.get(1, 5, 0);
        m.move(4, -1);
        m.set(1, 5, 4);
        m.collect(1);
        colours(check, "taken out before it was marked", m, 0, 2);
        m.collect(1);
        colours(check, "a white root is made gray", m, 1, 2);
        check.same("it marks on", 1, m.count(1));
        m.collect(2);
        check.same("then it sweeps", 2, m.count(1));
        check.same("nothing goes", 0, m.collect(16));
    }

    /** A machine that MARKS, whose TABLE 0 (GLOBAL 0, one PAIR 1: 1) is BLACK. */
    private static TriColourMachine black() {
        TriColourMachine m = new TriColourMachine();
        m.make(0, -1);
        Told.put(m, 0, 1, 1);
        m.collect(2);
        return m;
    }

    private static void changedTables(Check check) {
        TriColourMachine m = black();
        check.same("black", 2, m.object(0, 1));
        Told.put(m, 0, 2, 2);
        check.same("a pair put", 1, m.object(0, 1));
        check.same("gray ones", 1, m.count(6));
        m.collect(1);
        Told.put(m, 0, 2, 3);
        check.same("replaced", 1, m.object(0, 1));
        m.collect(1);
        Told.put(m, 0, 2, 3);
        check.same("replaced by the same", 1, m.object(0, 1));
        m.collect(1);
        m.move(5, -1);
        m.set(0, 4, 5);
        check.same("taken away", 1, m.object(0, 1));
        TriColourMachine far = black();
        far.make(1, -1);
        far.make(2, -1);
        far.meta(0, 1);
        Told.link(far, 1, 1, 2);
        far.collect(2);
        colours(check, "all black", far, 2, 2, 2);
        Told.put(far, 0, 7, 7);
        colours(check, "only the one that is changed", far, 2, 2, 1);
    }

    private static void unchangedTables(Check check) {
        TriColourMachine m = black();
        m.number(4, 7);
        m.move(5, -1);
        m.set(0, 4, 5);
        check.same("nothing to take away", 2, m.object(0, 1));
        m.number(4, 1);
        m.get(0, 4, 3);
        check.same("looked at", 2, m.object(0, 1));
        check.throwsA("a nil key", Check.WRONG, () -> m.set(0, 5, 4));
        check.throwsA("a wrong meta", Check.WRONG, () -> m.meta(0, 4));
        check.same("wrong changes nothing", 2, m.object(0, 1));
        for (int k = 2; k <= 6; k++) {
            Told.put(m, 0, k, k);
        }
        m.collect(1);
        check.throwsA("a seventh", Check.NO, () -> Told.put(m, 0, 7, 7));
        check.same("no room changes nothing", 2, m.object(0, 1));
    }

    private static void onlyWhileMarking(Check check) {
        TriColourMachine m = black();
        m.collect(1);
        check.same("it sweeps", 2, m.count(1));
        Told.put(m, 0, 2, 2);
        m.meta(0, 0);
        check.same("black stays black", 2, m.object(0, 1));
        m.collect(16);
        Told.put(m, 0, 2, 2);
        check.same("resting: white stays white", 0, m.object(0, 1));
        m.collect(1);
        Told.put(m, 0, 2, 2);
        check.same("gray stays gray", 1, m.object(0, 1));
        TriColourMachine white = new TriColourMachine();
        white.make(0, -1);
        white.make(1, -1);
        Told.link(white, 0, 1, 1);
        white.move(1, -1);
        white.collect(1);
        white.number(5, 1);
        white.get(0, 5, 1);
        Told.put(white, 1, 3, 3);
        check.same("white stays white", 0, white.object(1, 1));
    }

    private static void metaSet(Check check) {
        TriColourMachine m = black();
        m.meta(0, 0);
        check.same("a meta", 1, m.object(0, 1));
        m.collect(1);
        m.meta(0, 0);
        check.same("the same again", 1, m.object(0, 1));
        m.collect(1);
        m.move(5, -1);
        m.meta(0, 5);
        check.same("none", 1, m.object(0, 1));
        m.collect(1);
        m.meta(0, 5);
        check.same("none again", 1, m.object(0, 1));
    }

    private static void resumedCoroutines(Check check) {
        TriColourMachine m = Told.machine(Told.op(18, 0, 0, 0), Told.op(12, 0, 0, 0));
        m.collect(2);
        check.same("black", 2, m.object(0, 1));
        m.make(1, -1);
        m.resume(0, 1, 2);
        check.same("resumed: gray", 1, m.object(0, 1));
        m.collect(1);
        m.resume(0, 1, 2);
        check.same("and again", 1, m.object(0, 1));
        m.collect(2);
        check.same("it sweeps", 2, m.count(1));
        m.resume(0, 1, 2);
        check.same("sweeping: black", 2, m.object(0, 1));
        TriColourMachine dead = Told.machine(Told.op(19, 0, 0, 0));
        dead.resume(0, 1, 2);
        dead.collect(2);
        check.throwsA("dead", Check.WRONG, () -> dead.resume(0, 1, 2));
        check.same("is not resumed", 2, dead.object(0, 1));
        TriColourMachine inner = Told.machine(Told.op(3, 1, 0, 1), Told.op(17, 2, 1, 0), Told.op(18, 0, 0, 0));
        inner.code(1, 0, 18, 0, 0, 0);
        inner.make(1, 1);
        inner.collect(3);
        colours(check, "both black", inner, 2, 2);
        inner.resume(0, 3, 3);
        colours(check, "both resumed", inner, 1, 1);
    }

    private static void sweeps(Check check) {
        TriColourMachine m = new TriColourMachine();
        for (int n = 0; n < 16; n++) {
            m.make(n == 15 ? 1 : 0, -1);
        }
        check.same("root, two marks, the turn", 0, m.collect(4));
        check.same("fourteen of fourteen", 14, m.collect(14));
        check.same("the roots stay", 0, m.collect(2));
        check.same("it rests", 0, m.count(1));
        check.same("the roots are white", 0, m.object(14, 1) + m.object(15, 1));
        check.same("there", 2, m.count(0));
        check.same("made", 16, m.count(3));
        check.same("gone", 14, m.count(4));
    }

    private static void full(Check check) {
        TriColourMachine m = new TriColourMachine();
        check.same("of nothing", 0, m.full());
        check.same("units of nothing", 18, m.count(7));
        check.same("it rests", 0, m.count(1));
        m.make(0, -1);
        m.make(0, -1);
        m.make(1, 0);
        check.same("one goes", 1, m.full());
        check.same("units", 18 + 1 + 2 + 1 + 16, m.count(7));
        check.same("full collections", 2, m.count(8));
        check.same("object 0", 0, m.object(0, 0));
        check.same("object 1", 1, m.object(1, 0));
        check.same("object 2", 2, m.object(2, 0));
        check.same("white", 0, m.object(1, 1));
    }

    private static void fullFromTheMiddle(Check check) {
        TriColourMachine m = new TriColourMachine();
        m.make(0, -1);
        m.make(1, -1);
        m.collect(3);
        m.move(1, -1);
        check.same("black, but gone after the second round", 1, m.full());
        check.same("units", 3 + 1 + 16 + 1 + 1 + 1 + 16, m.count(7));
        m.make(1, -1);
        m.collect(6);
        check.same("it sweeps", 2, m.count(1));
        m.move(0, -1);
        check.same("from sweeping too", 1, m.full());
        check.same("full collections", 2, m.count(8));
    }

    private static void rings(Check check) {
        TriColourMachine m = new TriColourMachine();
        m.make(0, -1);
        m.make(1, -1);
        m.meta(0, 1);
        m.meta(1, 0);
        m.set(0, 0, 1);
        m.move(1, -1);
        check.same("one end holds all", 0, m.full());
        m.move(0, -1);
        check.same("a ring goes", 2, m.full());
        m.make(0, -1);
        check.same("its number is used again", Told.object(0), m.global(0));
        check.same("without its pairs", 0, m.object(0, 2));
    }

    private static void bad(Check check) {
        TriColourMachine m = new TriColourMachine();
        for (int n : new int[] {0, -1, 101, Told.MIN, Told.MAX}) {
            check.throwsA("collect " + n, Check.BAD, () -> m.collect(n));
        }
        check.same("no unit was done", 0, m.count(7));
    }
}
