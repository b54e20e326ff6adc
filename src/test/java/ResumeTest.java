/** Promise 9: RESUMING, its limits and what TROUBLE leaves. */
public final class ResumeTest {
    public static void main(String[] args) {
        Check check = new Check("ResumeTest");
        inAndOut(check);
        endOfCode(check);
        dead(check);
        activeOnes(check);
        fiveActive(check);
        deadBeforeDeep(check);
        twoHundred(check);
        twoHundredOfAll(check);
        troubleInside(check);
        yieldedStaysAlive(check);
        noRoomInside(check);
        rootsInside(check);
        bad(check);
        check.end();
    }

    private static int[] op(int op, int a, int b, int c) {
        return Told.op(op, a, b, c);
    }

    private static void inAndOut(Check check) {
        TriColourMachine m = Told.machine(op(18, 0, 0, 0), op(18, 2, 0, 0), op(2, 1, 2, 0), op(19, 1, 0, 0));
        m.number(1, 5);
        check.same("the first in goes out", 5, m.resume(0, 1, 2));
        check.same("to", 5, m.global(2));
        check.same("yielded", 1, m.object(0, 3));
        check.same("behind the yield", 1, m.object(0, 2));
        m.number(1, 6);
        check.same("register 2", Told.NIL, m.resume(0, 1, 2));
        check.same("to is nil", Told.NIL, m.global(2));
        check.same("came into 0", 6, m.inside(0, 0, false));
        m.number(1, 7);
        check.same("came into 2", 7, m.resume(0, 1, 0));
        check.same("to may be the coroutine's own global", 7, m.global(0));
        check.same("dead", 3, m.object(0, 3));
        check.same("its place", 4, m.object(0, 2));
        TriColourMachine self = Told.machine(op(18, 0, 0, 0));
        check.same("itself in and out", Told.object(0), self.resume(0, 0, 3));
    }

    private static void endOfCode(Check check) {
        TriColourMachine m = Told.machine(op(12, 0, 0, 15));
        m.code(0, 15, 18, 1, 0, 0);
        m.number(1, 5);
        m.resume(0, 1, 2);
        check.same("at 16", 16, m.object(0, 2));
        check.throwsA("16 is wrong", Check.WRONG, () -> m.resume(0, 1, 2));
        check.same("still at 16", 16, m.object(0, 2));
        check.same("dead", 3, m.object(0, 3));
        check.same("the value came in", 5, m.inside(0, 1, false));
        check.same("16 is not begun", 2, m.count(5));
    }

    private static void dead(Check check) {
        TriColourMachine m = Told.machine(op(19, 0, 0, 0));
        m.resume(0, 1, 2);
        m.number(1, 9);
        m.number(2, 8);
        check.throwsA("dead", Check.WRONG, () -> m.resume(0, 1, 2));
        check.same("register 0", Told.NIL, m.inside(0, 0, false));
        check.same("to", 8, m.global(2));
        check.throwsA("a number", Check.WRONG, () -> m.resume(1, 1, 2));
        check.throwsA("nil", Check.WRONG, () -> m.resume(4, 1, 2));
        m.make(3, -1);
        check.throwsA("a table", Check.WRONG, () -> m.resume(3, 1, 2));
        check.same("begun", 1, m.count(5));
    }

    private static void activeOnes(Check check) {
        TriColourMachine m = Told.machine(op(3, 1, 0, 0), op(17, 2, 1, 0));
        m.number(1, 5);
        check.throwsA("itself", Check.WRONG, () -> m.resume(0, 1, 2));
        check.same("dead", 3, m.object(0, 3));
        check.same("its place", 1, m.object(0, 2));
        check.same("register 0", 5, m.inside(0, 0, false));
        TriColourMachine two = Told.machine(op(16, 1, 0, 1), op(17, 2, 1, 0));
        Told.program(two, 1, op(0, 0, 0, 0), op(3, 1, 0, 0), op(17, 2, 1, 0));
        two.number(1, 5);
        check.throwsA("the one below", Check.WRONG, () -> two.resume(0, 1, 2));
        check.same("the lower is dead", 3, two.object(0, 3));
        check.same("the lower's place", 1, two.object(0, 2));
        check.same("the upper is dead", 3, two.object(1, 3));
        check.same("the upper's place", 2, two.object(1, 2));
    }

    private static void fiveActive(Check check) {
        // Each takes one off what comes in and gives it to the next, until it is 0.
        int[][] rows = {op(1, 1, 0, 0), op(14, 0, 1, 7), op(1, 1, 0, 1), op(9, 0, 0, 1),
            op(16, 2, 0, 0), op(17, 3, 2, 0), op(19, 3, 0, 0), op(1, 0, 0, 77), op(19, 0, 0, 0)};
        TriColourMachine five = Told.machine(rows);
        five.number(1, 4);
        check.same("five", 77, five.resume(0, 1, 2));
        check.same("objects", 5, five.count(0));
        TriColourMachine six = Told.machine(rows);
        six.number(1, 5);
        check.throwsA("six", Check.NO, () -> six.resume(0, 1, 2));
        for (int n = 0; n < 5; n++) {
            check.same("dead " + n, 3, six.object(n, 3));
            check.same("place " + n, 5, six.object(n, 2));
        }
        check.same("the sixth is fresh", 0, six.object(5, 3));
        check.same("nothing came in", Told.NIL, six.inside(5, 0, false));
        six.number(1, 0);
        six.make(0, 0);
        check.same("and then none is active", 77, six.resume(0, 1, 2));
    }

    /** With five ACTIVE, RESUMING one that is DEAD is still WRONG. */
    private static void deadBeforeDeep(Check check) {
        int[][] rows = {op(1, 1, 0, 0), op(14, 0, 1, 7), op(1, 1, 0, 1), op(9, 0, 0, 1),
            op(16, 2, 0, 0), op(17, 3, 2, 0), op(19, 3, 0, 0), op(3, 1, 0, 5), op(17, 1, 1, 0)};
        TriColourMachine m = Told.machine(rows);
        m.code(1, 0, 19, 0, 0, 0);
        m.make(5, 1);
        m.resume(5, 4, 4);
        m.number(1, 4);
        check.throwsA("a dead sixth", Check.WRONG, () -> m.resume(0, 1, 2));
        TriColourMachine alive = Told.machine(rows);
        alive.code(1, 0, 18, 0, 0, 0);
        alive.make(5, 1);
        alive.number(4, 3);
        alive.resume(5, 4, 3);
        alive.number(1, 4);
        check.throwsA("a yielded sixth", Check.NO, () -> alive.resume(0, 1, 2));
        check.same("it stays yielded", 1, alive.object(1, 3));
        check.same("and nothing came in", 3, alive.inside(1, 0, false));
    }

    private static void twoHundred(Check check) {
        // 1 and 66 times 3 before the YIELD, which is then the 200th.
        TriColourMachine m = Told.machine(op(1, 2, 0, 0), op(1, 1, 0, 1), op(9, 0, 0, 1),
            op(11, 2, 0, 1), op(18, 0, 0, 0), op(12, 0, 0, 5));
        m.number(1, 66);
        check.same("the 200th yields", 0, m.resume(0, 1, 2));
        check.same("begun", 200, m.count(5));
        check.throwsA("one more", Check.NO, () -> m.resume(0, 1, 2));
        check.same("200 more", 400, m.count(5));
        check.same("dead", 3, m.object(0, 3));
        check.same("its place", 5, m.object(0, 2));
        TriColourMachine more = Told.machine(op(2, 0, 0, 0), op(1, 2, 0, 0), op(1, 1, 0, 1),
            op(9, 0, 0, 1), op(11, 2, 0, 2), op(18, 0, 0, 0));
        more.number(1, 66);
        more.number(2, 44);
        check.throwsA("the 201st yields not", Check.NO, () -> more.resume(0, 1, 2));
        check.same("begun of 201", 200, more.count(5));
        check.same("it stands at the yield", 5, more.object(0, 2));
        check.same("what was done stays done", 0, more.inside(0, 0, false));
        check.same("to", 44, more.global(2));
    }

    /** The 200 are counted over all that are RESUMED in the call. */
    private static void twoHundredOfAll(Check check) {
        TriColourMachine m = Told.machine(op(16, 1, 0, 1), op(17, 2, 1, 0), op(12, 0, 0, 1));
        Told.program(m, 1, op(18, 0, 0, 0), op(12, 0, 0, 0));
        check.throwsA("no end", Check.NO, () -> m.resume(0, 1, 2));
        check.same("begun", 200, m.count(5));
        check.same("the outer one is dead", 3, m.object(0, 3));
        check.throwsA("in the next call again", Check.NO, () -> {
            m.make(0, 0);
            m.resume(0, 1, 2);
        });
        check.same("another 200", 400, m.count(5));
    }

    private static void troubleInside(Check check) {
        TriColourMachine m = Told.machine(op(16, 1, 0, 1), op(17, 2, 1, 0), op(19, 0, 0, 0));
        Told.program(m, 1, op(5, 1, 0, 0), op(4, 1, 0, 4), op(8, 0, 1, 1));
        m.number(1, 5);
        m.number(2, 6);
        check.throwsA("inside", Check.WRONG, () -> m.resume(0, 1, 2));
        check.same("the outer one", 3, m.object(0, 3));
        check.same("is at the resume", 1, m.object(0, 2));
        check.same("the inner one", 3, m.object(1, 3));
        check.same("is at the sum", 2, m.object(1, 2));
        check.same("the global stays", Told.object(2), m.global(4));
        check.same("to is as it was", 6, m.global(2));
        check.same("the awaited register too", Told.NIL, m.inside(0, 2, false));
    }

    /** TROUBLE takes only the ACTIVE ones: who has YIELDED before can go on. */
    private static void yieldedStaysAlive(Check check) {
        TriColourMachine m = Told.machine(op(16, 1, 0, 1), op(4, 1, 0, 4), op(17, 2, 1, 0), op(8, 0, 1, 1));
        Told.program(m, 1, op(18, 0, 0, 0), op(19, 0, 0, 0));
        m.number(1, 5);
        check.throwsA("after the yield", Check.WRONG, () -> m.resume(0, 1, 2));
        check.same("the inner one is yielded", 1, m.object(1, 3));
        check.same("behind its yield", 1, m.object(1, 2));
        m.number(1, 8);
        check.same("and goes on", 8, m.resume(4, 1, 2));
    }

    private static void noRoomInside(Check check) {
        // A chain of TABLES by METAS, the last in a REGISTER.
        TriColourMachine m = Told.machine(op(5, 1, 0, 0), op(15, 1, 2, 0), op(2, 2, 1, 0), op(12, 0, 0, 0));
        check.throwsA("no room", Check.NO, () -> m.resume(0, 1, 2));
        check.same("at the new table", 0, m.object(0, 2));
        check.same("dead", 3, m.object(0, 3));
        check.same("all are there", 16, m.count(0));
        check.same("a full collection", 1, m.count(8));
        check.same("begun", 15 * 4 + 1, m.count(5));
        check.same("register 1 is as it was", Told.object(15), m.inside(0, 1, false));
        check.throwsA("a dead one refers on", Check.NO, () -> m.make(3, -1));
        m.move(0, -1);
        check.same("without its global all can go", 16, m.full());
    }

    /** A FULL COLLECTION within the call keeps the ACTIVE ones and their REGISTERS. */
    private static void rootsInside(Check check) {
        TriColourMachine m = Told.machine(op(0, 1, 0, 0), op(4, 1, 0, 0), op(5, 3, 0, 0),
            op(16, 1, 0, 1), op(17, 2, 1, 0), op(19, 3, 0, 0));
        // The inner one makes 20 TABLES in REGISTER 3 and gives the last.
        Told.program(m, 1, op(1, 0, 0, 20), op(1, 1, 0, 1), op(1, 2, 0, 0), op(5, 3, 0, 0),
            op(9, 0, 0, 1), op(11, 2, 0, 3), op(19, 3, 0, 0));
        check.same("the outer table", Told.object(1), m.resume(0, 1, 2));
        check.same("the outer one is there, though no global has it", 2, m.object(0, 0));
        check.same("the inner one too", 2, m.object(2, 0));
        check.same("full collections", 1, m.count(8));
        check.same("made", 23, m.count(3));
        check.same("what went", 12, m.count(4));
        check.same("then all but one go", 10, m.full());
    }

    private static void bad(Check check) {
        TriColourMachine m = new TriColourMachine();
        for (int g : new int[] {-1, 6, Told.MIN, Told.MAX}) {
            check.throwsA("g " + g, Check.BAD, () -> m.resume(g, 0, 0));
            check.throwsA("v " + g, Check.BAD, () -> m.resume(0, g, 0));
            check.throwsA("to " + g, Check.BAD, () -> m.resume(0, 0, g));
        }
        TriColourMachine ready = Told.machine(op(19, 0, 0, 0));
        check.throwsA("to comes before all", Check.BAD, () -> ready.resume(0, 0, 6));
        check.same("it is fresh still", 0, ready.object(0, 3));
    }
}
