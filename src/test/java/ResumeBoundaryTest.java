/** The edges in the sentences on RESUMING and TROUBLE, each sentence by itself. */
public final class ResumeBoundaryTest {
    private static final int[] RETURN_2 = Told.op(19, 2, 0, 0);

    public static void main(String[] args) {
        Check check = new Check("ResumeBoundaryTest");
        deadByReturn(check);
        deadByTrouble(check);
        deadInACall(check);
        active(check);
        firstIn(check);
        laterIn(check);
        untilItEnds(check);
        fiveAndSix(check);
        sixthOfEachState(check);
        oneAfterAnother(check);
        wrongInTheFifth(check);
        tooDeepInTheFifth(check);
        noRoomInTheFifth(check);
        onlyActiveOnesDie(check);
        twoHundred(check);
        nothingAsTheLast(check);
        sixteenAsTheLast(check);
        resumeAsTheLast(check);
        innerOnesCount(check);
        eachCallByItself(check);
        check.end();
    }

    private static int[] op(int op, int a, int b, int c) {
        return Told.op(op, a, b, c);
    }

    private static void deadByReturn(Check check) {
        check.sentence("RESUMING a COROUTINE with a VALUE: DEAD or ACTIVE: WRONG.");
        TriColourMachine m = Told.machine(op(19, 0, 0, 0));
        m.number(1, 5);
        m.resume(0, 1, 2);
        m.number(1, 6);
        m.collect(2);
        check.same("it is black", 2, m.object(0, 1));
        check.refused("returned", Check.WRONG, m, () -> m.resume(0, 1, 2));
        m.code(0, 1, 19, 0, 0, 0);
        check.refused("though its function goes on", Check.WRONG, m, () -> m.resume(0, 1, 2));
    }

    private static void deadByTrouble(Check check) {
        check.sentence("RESUMING a COROUTINE with a VALUE: DEAD or ACTIVE: WRONG.");
        TriColourMachine m = Told.machine();
        check.throwsA("nothing to do", Check.WRONG, () -> m.resume(0, 1, 2));
        m.code(0, 0, 19, 0, 0, 0);
        check.refused("though there is now", Check.WRONG, m, () -> m.resume(0, 1, 2));
        TriColourMachine far = Told.machine(op(12, 0, 0, 0));
        check.throwsA("no end", Check.NO, () -> far.resume(0, 1, 2));
        far.code(0, 0, 19, 0, 0, 0);
        check.refused("wrong, no more too deep", Check.WRONG, far, () -> far.resume(0, 1, 2));
    }

    private static void deadInACall(Check check) {
        check.sentence("RESUMING a COROUTINE with a VALUE: DEAD or ACTIVE: WRONG.");
        TriColourMachine m = Told.machine(op(16, 1, 0, 1), op(17, 2, 1, 0), op(17, 3, 1, 1), op(19, 0, 0, 0));
        m.code(1, 0, 19, 0, 0, 0);
        m.number(1, 5);
        check.throwsA("the second time", Check.WRONG, () -> m.resume(0, 1, 2));
        check.same("stands at it", 2, m.object(0, 2));
        check.same("the first time was done", 5, m.inside(0, 2, false));
        check.same("nothing came in again", 5, m.inside(1, 0, false));
        check.same("where it returned", 1, m.object(1, 2));
    }

    private static void active(Check check) {
        check.sentence("RESUMING a COROUTINE with a VALUE: DEAD or ACTIVE: WRONG.");
        TriColourMachine self = Told.machine(op(3, 1, 0, 0), op(17, 2, 1, 1));
        self.number(1, 5);
        check.throwsA("itself", Check.WRONG, () -> self.resume(0, 1, 2));
        check.same("nothing came in", 5, self.inside(0, 0, false));
        check.same("dead at it", 1, self.object(0, 2));
        // Each RESUMES the next, and the fifth the first: ACTIVE comes before more than 5.
        TriColourMachine ring = fiveRows(op(3, 2, 0, 0), op(17, 3, 2, 1));
        ring.number(1, 4);
        check.throwsA("the first of five", Check.WRONG, () -> ring.resume(0, 1, 5));
        for (int n = 0; n < 5; n++) {
            check.same("dead " + n, 3, ring.object(n, 3));
        }
        check.same("nothing came into the first", 3, ring.inside(0, 0, false));
    }

    /**
     * GLOBAL 0 is a COROUTINE that makes another of its FUNCTION and RESUMES it (INSTRUCTION 5) with
     * one less than what came in; the one into which 0 comes does these rows, from 7 on.
     */
    private static TriColourMachine fiveRows(int[]... rows) {
        TriColourMachine m = Told.machine(op(1, 1, 0, 0), op(14, 0, 1, 7), op(1, 1, 0, 1), op(9, 0, 0, 1),
            op(16, 2, 0, 0), op(17, 3, 2, 0), op(19, 3, 0, 0));
        for (int i = 0; i < rows.length; i++) {
            m.code(0, 7 + i, rows[i][0], rows[i][1], rows[i][2], rows[i][3]);
        }
        return m;
    }

    private static void firstIn(Check check) {
        check.sentence("FRESH: REGISTER 0 becomes the VALUE; YIELDED: the REGISTER of its YIELD does.");
        TriColourMachine m = Told.machine(op(18, 3, 0, 0), op(18, 1, 0, 0), op(18, 1, 0, 0));
        m.number(1, 5);
        m.resume(0, 1, 2);
        check.same("fresh: into 0", 5, m.inside(0, 0, false));
        check.same("not yet into 3", Told.NIL, m.inside(0, 3, false));
        m.move(1, -1);
        m.resume(0, 1, 2);
        check.same("nil too", Told.NIL, m.inside(0, 3, false));
        check.same("0 stays", 5, m.inside(0, 0, false));
        m.resume(0, 0, 2);
        check.same("itself too", Told.object(0), m.inside(0, 1, false));
    }

    private static void laterIn(Check check) {
        check.sentence("FRESH: REGISTER 0 becomes the VALUE; YIELDED: the REGISTER of its YIELD does.");
        TriColourMachine m = Told.machine(op(18, 2, 0, 0), op(18, 0, 0, 0));
        m.resume(0, 1, 2);
        // Its YIELD was the one that it did, whatever stands there by now.
        m.code(0, 0, 18, 3, 0, 0);
        m.number(1, 6);
        m.resume(0, 1, 2);
        check.same("into 2", 6, m.inside(0, 2, false));
        check.same("not into 3", Told.NIL, m.inside(0, 3, false));
        TriColourMachine inner = Told.machine(op(16, 1, 0, 1), op(17, 2, 1, 0), op(1, 0, 0, 8), op(17, 2, 1, 0),
            op(18, 0, 0, 0));
        Told.program(inner, 1, op(18, 3, 0, 0), op(18, 3, 0, 0));
        inner.number(1, 7);
        inner.resume(0, 1, 2);
        check.same("the inner one's first", 7, inner.inside(1, 0, false));
        check.same("the inner one's second", 8, inner.inside(1, 3, false));
    }

    private static void untilItEnds(Check check) {
        check.sentence("It is ACTIVE, and does INSTRUCTIONS until it YIELDS or RETURNS, or there is TROUBLE "
            + "(WRONG, TOO DEEP, NO ROOM).");
        // What stands behind the end is not done: it would put 9 into GLOBAL 3.
        int[][] ends = {op(18, 0, 0, 0), op(19, 0, 0, 0), op(8, 0, 3, 3)};
        int[] states = {1, 3, 3};
        for (int i = 0; i < 3; i++) {
            TriColourMachine m = Told.machine(op(1, 1, 0, 9), ends[i], op(4, 1, 0, 3));
            if (i == 2) {
                check.throwsA("trouble", Check.WRONG, () -> m.resume(0, 1, 2));
            } else {
                m.resume(0, 1, 2);
            }
            check.same("begun with " + ends[i][0], 2, m.count(5));
            check.same("state after " + ends[i][0], states[i], m.object(0, 3));
            check.same("nothing behind " + ends[i][0], Told.NIL, m.global(3));
        }
        TriColourMachine at = Told.machine(op(18, 0, 0, 0));
        check.same("the first may be the end", Told.NIL, at.resume(0, 1, 2));
        check.same("one was begun", 1, at.count(5));
    }

    private static void fiveAndSix(Check check) {
        check.sentence("More than 5 ACTIVE ones: TOO DEEP.");
        for (int more = 0; more <= 4; more++) {
            TriColourMachine m = fiveRows(op(1, 0, 0, 77), op(19, 0, 0, 0));
            m.number(1, more);
            check.same("with " + more + " more", 77, m.resume(0, 1, 2));
            check.same("all are dead", 3, m.object(more, 3));
        }
        TriColourMachine six = fiveRows(op(1, 0, 0, 77), op(19, 0, 0, 0));
        six.number(1, 5);
        six.number(2, 6);
        check.throwsA("with 5 more", Check.NO, () -> six.resume(0, 1, 2));
        check.same("to", 6, six.global(2));
        check.same("made", 6, six.count(3));
        check.same("begun: six each", 30, six.count(5));
        for (int n = 0; n < 5; n++) {
            check.same("dead " + n, 3, six.object(n, 3));
            check.same("at its resume " + n, 5, six.object(n, 2));
        }
    }

    private static void sixthOfEachState(Check check) {
        check.sentence("More than 5 ACTIVE ones: TOO DEEP.");
        TriColourMachine fresh = fiveRows(op(3, 2, 0, 5), op(17, 3, 2, 1));
        fresh.make(5, 1);
        fresh.number(1, 4);
        check.throwsA("a fresh one", Check.NO, () -> fresh.resume(0, 1, 2));
        check.same("is fresh still", 0, fresh.object(1, 3));
        check.same("nothing came in", Told.NIL, fresh.inside(1, 0, false));
        TriColourMachine yielded = fiveRows(op(3, 2, 0, 5), op(17, 3, 2, 1));
        yielded.code(1, 0, 18, 3, 0, 0);
        yielded.make(5, 1);
        yielded.resume(5, 4, 3);
        yielded.number(1, 4);
        check.throwsA("a yielded one", Check.NO, () -> yielded.resume(0, 1, 2));
        check.same("is yielded still", 1, yielded.object(1, 3));
        check.same("nothing came in there", Told.NIL, yielded.inside(1, 3, false));
        TriColourMachine dead = fiveRows(op(3, 2, 0, 5), op(17, 3, 2, 1));
        dead.code(1, 0, 19, 0, 0, 0);
        dead.make(5, 1);
        dead.resume(5, 4, 3);
        dead.number(1, 4);
        check.throwsA("a dead one is wrong", Check.WRONG, () -> dead.resume(0, 1, 2));
        TriColourMachine none = fiveRows(op(17, 3, 1, 1));
        none.number(1, 4);
        check.throwsA("a number is wrong", Check.WRONG, () -> none.resume(0, 1, 2));
    }

    private static void oneAfterAnother(Check check) {
        check.sentence("More than 5 ACTIVE ones: TOO DEEP.");
        // Who has YIELDED or RETURNED is not ACTIVE: the fourth RESUMES four, each as the fifth.
        TriColourMachine m = fiveRows(op(16, 2, 0, 1), op(17, 3, 2, 1), op(16, 2, 0, 1), op(17, 3, 2, 1),
            op(16, 2, 0, 2), op(17, 3, 2, 1), op(16, 2, 0, 2), op(17, 3, 2, 1), op(19, 2, 0, 0));
        m.code(1, 0, 18, 0, 0, 0);
        m.code(2, 0, 19, 0, 0, 0);
        m.number(1, 3);
        check.same("four and then four in turn", Told.object(7), m.resume(0, 1, 2));
        check.same("yielded", 1, m.object(5, 3));
        check.same("returned", 3, m.object(7, 3));
    }

    /** OBJECTS 0 .. 3 stand at their RESUMES, OBJECT 4 at that PLACE, and all are DEAD. */
    private static void allFiveDead(Check check, TriColourMachine m, int place) {
        for (int n = 0; n < 5; n++) {
            check.same("dead " + n, 3, m.object(n, 3));
            check.same("place " + n, n == 4 ? place : 5, m.object(n, 2));
            check.same("what came in, less one " + n, n == 4 ? 0 : 3 - n, m.inside(n, 0, false));
            check.same("no outcome " + n, Told.NIL, m.inside(n, 3, false));
        }
        check.same("to is as it was", 44, m.global(5));
        // None is ACTIVE any more: five can be again.
        Told.program(m, 0, op(1, 1, 0, 0), op(14, 0, 1, 7));
        m.code(0, 7, 1, 0, 0, 77);
        m.code(0, 8, 19, 0, 0, 0);
        m.full();
        m.make(0, 0);
        m.number(1, 4);
        check.same("five again", 77, m.resume(0, 1, 5));
    }

    private static void wrongInTheFifth(Check check) {
        check.sentence("With TROUBLE all ACTIVE ones are DEAD, their PLACES at the INSTRUCTIONS that they were doing, "
            + "what was done stays done, and it comes out of the call.");
        TriColourMachine m = fiveRows(op(5, 2, 0, 0), op(4, 2, 0, 3), op(7, 2, 0, 2), op(8, 0, 2, 2));
        m.number(1, 4);
        m.number(5, 44);
        check.throwsA("wrong", Check.WRONG, () -> m.resume(0, 1, 5));
        check.same("the global stays", Told.object(5), m.global(3));
        check.same("the pair stays", Told.object(5), m.inside(5, 0, true));
        check.same("begun", 4 * 6 + 2 + 4, m.count(5));
        m.move(3, -1);
        allFiveDead(check, m, 10);
    }

    private static void tooDeepInTheFifth(Check check) {
        check.sentence("With TROUBLE all ACTIVE ones are DEAD, their PLACES at the INSTRUCTIONS that they were doing, "
            + "what was done stays done, and it comes out of the call.");
        // 24 in the four, 2 and then 7, 8, 8, .. in the fifth: the 201st would be another 8.
        TriColourMachine m = fiveRows(op(4, 1, 0, 3), op(12, 0, 0, 8));
        m.number(1, 4);
        m.number(5, 44);
        check.throwsA("too deep", Check.NO, () -> m.resume(0, 1, 5));
        check.same("the global stays", 0, m.global(3));
        check.same("begun", 200, m.count(5));
        allFiveDead(check, m, 8);
    }

    private static void noRoomInTheFifth(Check check) {
        check.sentence("With TROUBLE all ACTIVE ones are DEAD, their PLACES at the INSTRUCTIONS that they were doing, "
            + "what was done stays done, and it comes out of the call.");
        // TABLES, each the META of the next (the first has none, REGISTER 2 being NIL then), as many
        // as there is room for: OBJECTS 5 .. 15.
        TriColourMachine m = fiveRows(op(5, 1, 0, 0), op(15, 1, 2, 0), op(2, 2, 1, 0), op(12, 0, 0, 7));
        m.number(1, 4);
        m.number(5, 44);
        check.throwsA("no room", Check.NO, () -> m.resume(0, 1, 5));
        check.same("all are there", 16, m.count(0));
        check.same("a full collection", 1, m.count(8));
        check.same("the chain stays", 14, m.object(15, 3));
        check.same("begun", 4 * 6 + 2 + 11 * 4 + 1, m.count(5));
        check.same("it rests", 0, m.count(1));
        m.move(0, -1);
        allFiveDead(check, m, 7);
    }

    private static void onlyActiveOnesDie(Check check) {
        check.sentence("With TROUBLE all ACTIVE ones are DEAD");
        TriColourMachine m = Told.machine(op(16, 1, 0, 1), op(17, 2, 1, 0), op(16, 2, 0, 1), op(8, 0, 1, 1));
        m.code(1, 0, 18, 0, 0, 0);
        m.code(1, 1, 19, 0, 0, 0);
        m.make(4, 1);
        m.number(1, 5);
        m.resume(4, 1, 3);
        check.throwsA("wrong", Check.WRONG, () -> m.resume(0, 1, 2));
        check.same("the active one is dead", 3, m.object(0, 3));
        check.same("one that yielded before the call", 1, m.object(1, 3));
        check.same("one that yielded in it", 1, m.object(2, 3));
        check.same("one that was made in it", 0, m.object(3, 3));
        m.number(1, 6);
        check.same("it can go on", 6, m.resume(4, 1, 2));
    }

    /** GLOBAL 0 is a COROUTINE that does just so many INSTRUCTIONS, if GLOBAL 1 comes in, and then the rows. */
    private static TriColourMachine counted(int before, int[]... rows) {
        int more = (before - 1) % 3;
        TriColourMachine m = Told.machine();
        for (int i = 0; i < more; i++) {
            m.code(0, i, 2, 3, 3, 0);
        }
        m.code(0, more, 1, 1, 0, 1);
        m.code(0, more + 1, 9, 0, 0, 1);
        m.code(0, more + 2, 1, 2, 0, 0);
        m.code(0, more + 3, 11, 2, 0, more + 1);
        for (int i = 0; i < rows.length; i++) {
            m.code(0, more + 4 + i, rows[i][0], rows[i][1], rows[i][2], rows[i][3]);
        }
        m.number(1, (before - 1) / 3);
        return m;
    }

    /** Where the rows begin in what counted made. */
    private static int behind(int before) {
        return (before - 1) % 3 + 4;
    }

    private static void twoHundred(Check check) {
        check.sentence("In one call 200 INSTRUCTIONS are done at most; one more: TOO DEEP.");
        for (int op = 18; op <= 19; op++) {
            TriColourMachine last = counted(199, op(op, 2, 0, 0));
            check.same("the 200th is " + op, 0, last.resume(0, 1, 2));
            check.same("begun", 200, last.count(5));
            check.same("behind it", behind(199) + 1, last.object(0, 2));
            TriColourMachine more = counted(200, op(op, 2, 0, 0));
            more.number(2, 44);
            check.throwsA("the 201st is " + op, Check.NO, () -> more.resume(0, 1, 2));
            check.same("begun", 200, more.count(5));
            check.same("at it", behind(200), more.object(0, 2));
            check.same("dead", 3, more.object(0, 3));
            check.same("to", 44, more.global(2));
        }
        TriColourMachine writes = counted(198, op(4, 1, 0, 3), op(4, 1, 0, 4), op(4, 1, 0, 5));
        check.throwsA("three with two left", Check.NO, () -> writes.resume(0, 1, 2));
        check.same("the 199th", 1, writes.global(3));
        check.same("the 200th", 1, writes.global(4));
        check.same("not the 201st", Told.NIL, writes.global(5));
        TriColourMachine makes = counted(200, op(5, 3, 0, 0));
        check.throwsA("the 201st makes nothing", Check.NO, () -> makes.resume(0, 1, 2));
        check.same("made", 1, makes.count(3));
    }

    private static void nothingAsTheLast(Check check) {
        check.sentence("In one call 200 INSTRUCTIONS are done at most; one more: TOO DEEP.");
        TriColourMachine last = counted(199);
        check.throwsA("nothing as the 200th", Check.WRONG, () -> last.resume(0, 1, 2));
        check.same("begun", 199, last.count(5));
        // It would be one more, whatever stands there.
        TriColourMachine more = counted(200);
        check.throwsA("nothing as the 201st", Check.NO, () -> more.resume(0, 1, 2));
        check.same("begun", 200, more.count(5));
        check.same("at it", behind(200), more.object(0, 2));
        TriColourMachine wrong = counted(199, op(8, 0, 3, 3));
        check.throwsA("a wrong one as the 200th", Check.WRONG, () -> wrong.resume(0, 1, 2));
        check.same("is begun", 200, wrong.count(5));
        TriColourMachine moreWrong = counted(200, op(8, 0, 3, 3));
        check.throwsA("a wrong one as the 201st", Check.NO, () -> moreWrong.resume(0, 1, 2));
    }

    private static void sixteenAsTheLast(Check check) {
        check.sentence("In one call 200 INSTRUCTIONS are done at most; one more: TOO DEEP.");
        TriColourMachine last = counted(197, op(12, 0, 0, 15));
        last.code(0, 15, 0, 3, 0, 0);
        check.throwsA("16 as the 200th", Check.WRONG, () -> last.resume(0, 1, 2));
        check.same("begun", 199, last.count(5));
        check.same("at 16", 16, last.object(0, 2));
        TriColourMachine more = counted(198, op(12, 0, 0, 15));
        more.code(0, 15, 0, 3, 0, 0);
        check.throwsA("16 as the 201st", Check.NO, () -> more.resume(0, 1, 2));
        check.same("begun", 200, more.count(5));
        check.same("at 16 too", 16, more.object(0, 2));
    }

    private static void resumeAsTheLast(Check check) {
        check.sentence("In one call 200 INSTRUCTIONS are done at most; one more: TOO DEEP.");
        TriColourMachine m = counted(198, op(16, 3, 0, 1), op(17, 3, 3, 1), RETURN_2);
        m.code(1, 0, 19, 0, 0, 0);
        check.throwsA("the inner one's first is the 201st", Check.NO, () -> m.resume(0, 1, 2));
        check.same("begun", 200, m.count(5));
        check.same("the outer one is dead", 3, m.object(0, 3));
        check.same("at its resume", behind(198) + 1, m.object(0, 2));
        check.same("the inner one is dead", 3, m.object(1, 3));
        check.same("at its first", 0, m.object(1, 2));
        check.same("into which it came", 1, m.inside(1, 0, false));
        check.same("without an outcome", Told.object(1), m.inside(0, 3, false));
    }

    private static void innerOnesCount(Check check) {
        check.sentence("In one call 200 INSTRUCTIONS are done at most; one more: TOO DEEP.");
        TriColourMachine last = counted(196, op(16, 3, 0, 1), op(17, 3, 3, 1), RETURN_2);
        last.code(1, 0, 18, 0, 0, 0);
        check.same("the outer return is the 200th", 0, last.resume(0, 1, 2));
        check.same("begun", 200, last.count(5));
        TriColourMachine more = counted(197, op(16, 3, 0, 1), op(17, 3, 3, 1), RETURN_2);
        more.code(1, 0, 18, 0, 0, 0);
        check.throwsA("the outer return is the 201st", Check.NO, () -> more.resume(0, 1, 2));
        check.same("begun", 200, more.count(5));
        check.same("the outer one is at its return", behind(197) + 2, more.object(0, 2));
        check.same("with the outcome", 1, more.inside(0, 3, false));
        check.same("the inner one is yielded, not dead", 1, more.object(1, 3));
        check.same("behind its yield", 1, more.object(1, 2));
    }

    private static void eachCallByItself(Check check) {
        check.sentence("In one call 200 INSTRUCTIONS are done at most; one more: TOO DEEP.");
        TriColourMachine m = counted(199, op(18, 0, 0, 0));
        m.code(0, behind(199) + 1, 12, 0, 0, 0);
        m.resume(0, 1, 2);
        // One more now, for the way back: 199 must be 1 and 198, which is a loop less.
        m.number(1, 65);
        check.same("the next call too", 0, m.resume(0, 1, 2));
        check.same("begun", 200 + 1 + 1 + 3 * 65 + 1, m.count(5));
        TriColourMachine refused = counted(199, op(18, 0, 0, 0));
        refused.make(3, 1);
        check.throwsA("a call with trouble", Check.WRONG, () -> refused.resume(3, 1, 2));
        check.same("takes nothing from the next", 0, refused.resume(0, 1, 2));
    }
}
