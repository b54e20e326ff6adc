/** Promise 2. */
public final class CodeTest {
    public static void main(String[] args) {
        Check check = new Check("CodeTest");
        ranges(check);
        nothingTakesAway(check);
        replaces(check);
        changesWhatIsUnderWay(check);
        yieldKeepsItsRegister(check);
        check.end();
    }

    private static void ranges(Check check) {
        TriColourMachine m = new TriColourMachine();
        int[][] bad = {
            {-1, 0, 0}, {4, 0, 0}, {Told.MIN, 0, 0}, {Told.MAX, 0, 0},
            {0, -1, 0}, {0, 16, 0}, {0, Told.MIN, 0}, {0, Told.MAX, 0},
            {0, 0, -2}, {0, 0, 22}, {0, 0, Told.MIN}, {0, 0, Told.MAX},
        };
        m.code(0, 0, 19, 0, 0, 0);
        for (int[] x : bad) {
            check.throwsA("code " + x[0] + " " + x[1] + " " + x[2], Check.BAD,
                () -> m.code(x[0], x[1], x[2], 0, 0, 0));
        }
        m.make(0, 0);
        check.same("a bad code changes nothing", Told.object(0), m.resume(0, 0, 1));
        for (int op = -1; op <= 21; op++) {
            m.code(3, 15, op, Told.MIN, Told.MAX, Told.MIN);
        }
        m.code(3, 0, 12, 0, 0, 15);
        m.make(0, 3);
        check.throwsA("op 21 is there", Check.WRONG, () -> m.resume(0, 0, 0));
        check.same("and was begun", 3, m.count(5));
    }

    private static void nothingTakesAway(Check check) {
        TriColourMachine m = Told.machine(Told.op(19, 0, 0, 0));
        m.code(0, 0, -1, 5, 6, 7);
        check.throwsA("nothing", Check.WRONG, () -> m.resume(0, 0, 0));
        check.same("its place", 0, m.object(0, 2));
        check.same("it is dead", 3, m.object(0, 3));
        check.same("begun", 0, m.count(5));
    }

    private static void replaces(Check check) {
        TriColourMachine m = Told.machine(Told.op(1, 0, 0, 4), Told.op(19, 0, 0, 0));
        m.code(0, 0, 1, 0, 0, 9);
        check.same("the later code", 9, m.resume(0, 0, 1));
        m.code(1, 0, 1, 0, 0, 8);
        m.code(1, 1, 19, 0, 0, 0);
        m.make(0, 1);
        check.same("another function", 8, m.resume(0, 0, 1));
        m.make(0, 0);
        check.same("the first one still", 9, m.resume(0, 0, 1));
    }

    private static void changesWhatIsUnderWay(Check check) {
        TriColourMachine m = Told.machine(Told.op(18, 0, 0, 0), Told.op(1, 1, 0, 1), Told.op(19, 1, 0, 0));
        m.resume(0, 1, 2);
        m.code(0, 1, 1, 1, 0, 77);
        check.same("new code behind an old yield", 77, m.resume(0, 1, 2));
    }

    private static void yieldKeepsItsRegister(Check check) {
        TriColourMachine m = Told.machine(Told.op(18, 2, 0, 0), Told.op(19, 2, 0, 0));
        m.number(1, 5);
        check.same("what goes out", Told.NIL, m.resume(0, 1, 2));
        m.code(0, 0, 18, 3, 0, 0);
        m.number(1, 6);
        check.same("what came in, in the old register", 6, m.resume(0, 1, 2));
        check.same("register 3", Told.NIL, m.inside(0, 3, false));
    }
}
