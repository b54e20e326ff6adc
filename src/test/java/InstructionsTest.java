/** What promises 2 and 9 say of each INSTRUCTION. */
public final class InstructionsTest {
    private static final int RETURN = 19;

    public static void main(String[] args) {
        Check check = new Check("InstructionsTest");
        values(check);
        arithmetic(check);
        jumps(check);
        tables(check);
        keys(check);
        wrongOnes(check);
        coroutines(check);
        wrongChangesNothing(check);
        check.end();
    }

    /** What a FUNCTION of these rows gives out, if GLOBAL 1 (the NUMBER 5) comes in. */
    private static long outcome(int[]... rows) {
        TriColourMachine m = Told.machine(rows);
        m.number(1, 5);
        return m.resume(0, 1, 2);
    }

    private static int[] op(int op, int a, int b, int c) {
        return Told.op(op, a, b, c);
    }

    private static void values(Check check) {
        check.same("0", Told.NIL, outcome(op(0, 0, 0, 0), op(RETURN, 0, 0, 0)));
        check.same("1", Told.MIN, outcome(op(1, 2, 0, Told.MIN), op(RETURN, 2, 0, 0)));
        check.same("2", 5, outcome(op(2, 3, 0, 0), op(RETURN, 3, 0, 0)));
        check.same("3", 5, outcome(op(3, 3, 0, 1), op(RETURN, 3, 0, 0)));
        check.same("3, modulo 6", 5, outcome(op(3, 3, 0, 7), op(RETURN, 3, 0, 0)));
        check.same("3, modulo 6 below 0", 5, outcome(op(3, 3, 0, -5), op(RETURN, 3, 0, 0)));
        check.same("registers modulo 4", 5, outcome(op(2, 7, 4, 0), op(RETURN, 11, 0, 0)));
        check.same("registers below 0", 5, outcome(op(2, -1, -4, 0), op(RETURN, 3, 0, 0)));
        check.same("b below 0", 5, outcome(op(2, 1, 0, 0), op(0, 0, 0, 0), op(2, 2, -3, 0), op(RETURN, 2, 0, 0)));
        check.same("c below 0", 10, outcome(op(2, 1, 0, 0), op(8, 2, 0, -3), op(RETURN, 2, 0, 0)));
        check.same("the least number: register 0", 5, outcome(op(RETURN, Told.MIN, 0, 0)));
        check.same("the most: register 3", Told.NIL, outcome(op(RETURN, Told.MAX, 0, 0)));
        TriColourMachine m = Told.machine(op(4, 0, 0, 5), op(4, 0, 0, -2), op(4, 0, 0, 9), op(RETURN, 1, 0, 0));
        m.number(1, 5);
        m.resume(0, 1, 2);
        check.same("4", 5, m.global(5));
        check.same("4, modulo 6 below 0", 5, m.global(4));
        check.same("4, modulo 6", 5, m.global(3));
    }

    private static long calculated(int op, int left, int right) {
        return outcome(op(1, 1, 0, left), op(1, 2, 0, right), op(op, 3, 1, 2), op(RETURN, 3, 0, 0));
    }

    private static void arithmetic(Check check) {
        check.same("8", 7, calculated(8, 3, 4));
        check.same("8 wraps", Told.MIN, calculated(8, Told.MAX, 1));
        check.same("9", -1, calculated(9, 3, 4));
        check.same("9 wraps", Told.MAX, calculated(9, Told.MIN, 1));
        check.same("10", 12, calculated(10, 3, 4));
        check.same("10 wraps", Told.MIN, calculated(10, Told.MIN, -1));
        check.same("10 wraps far", 1, calculated(10, Told.MAX, Told.MAX));
    }

    /** 1 if the row at 2 goes on at 5, else 0; REGISTERS 1 and 2 are the NUMBERS (NIL for MAX). */
    private static long jumped(int left, int right, int[] row) {
        int one = left == Told.MAX ? 0 : 1;
        int two = right == Told.MAX ? 0 : 1;
        return outcome(op(one, 1, 0, left), op(two, 2, 0, right), row,
            op(1, 3, 0, 0), op(RETURN, 3, 0, 0), op(1, 3, 0, 1), op(RETURN, 3, 0, 0));
    }

    private static void jumps(Check check) {
        check.same("11 below", 1, jumped(3, 4, op(11, 1, 2, 5)));
        check.same("11 equal", 0, jumped(4, 4, op(11, 1, 2, 5)));
        check.same("11 above", 0, jumped(5, 4, op(11, 1, 2, 5)));
        check.same("11 below 0", 1, jumped(Told.MIN, 4, op(11, 1, 2, 5)));
        check.same("12", 1, jumped(0, 0, op(12, 0, 0, 5)));
        check.same("12 modulo 16", 1, jumped(0, 0, op(12, 0, 0, 21)));
        check.same("12 modulo 16 below 0", 1, jumped(0, 0, op(12, 0, 0, -11)));
        check.same("13 of nil", 1, jumped(Told.MAX, 0, op(13, 1, 0, 5)));
        check.same("13 of 0", 0, jumped(0, 0, op(13, 1, 0, 5)));
        check.same("14 alike", 1, jumped(6, 6, op(14, 1, 2, 5)));
        check.same("14 both nil", 1, jumped(Told.MAX, Told.MAX, op(14, 1, 2, 5)));
        check.same("14 unlike", 0, jumped(6, 7, op(14, 1, 2, 5)));
        check.same("14 nil and 0", 0, jumped(Told.MAX, 0, op(14, 1, 2, 5)));
        check.same("14 modulo 16", 1, jumped(6, 6, op(14, 1, 2, 37)));
        check.same("14 the same table", 1, outcome(op(5, 1, 0, 0), op(2, 2, 1, 0), op(14, 1, 2, 5),
            op(1, 3, 0, 0), op(RETURN, 3, 0, 0), op(1, 3, 0, 1), op(RETURN, 3, 0, 0)));
        check.same("14 two tables", 0, outcome(op(5, 1, 0, 0), op(5, 2, 0, 0), op(14, 1, 2, 5),
            op(1, 3, 0, 0), op(RETURN, 3, 0, 0), op(1, 3, 0, 1), op(RETURN, 3, 0, 0)));
        check.same("14 a table and its number", 0, outcome(op(5, 1, 0, 0), op(1, 2, 0, 1), op(14, 1, 2, 5),
            op(1, 3, 0, 0), op(RETURN, 3, 0, 0), op(1, 3, 0, 1), op(RETURN, 3, 0, 0)));
        TriColourMachine m = Told.machine(op(12, 0, 0, -1));
        m.code(0, 15, 12, 0, 0, 1);
        m.code(0, 1, 18, 0, 0, 0);
        m.resume(0, 1, 2);
        check.same("-1 modulo 16 is 15", 3, m.count(5));
    }

    private static void tables(Check check) {
        TriColourMachine m = Told.machine(op(5, 1, 0, 0), op(1, 2, 0, 8), op(7, 1, 2, 0),
            op(6, 3, 1, 2), op(18, 3, 0, 0), op(21, 0, 1, 0), op(18, 0, 0, 0),
            op(15, 1, 1, 0), op(0, 0, 0, 0), op(18, 1, 0, 0), op(2, 1, 1, 0), op(RETURN, 0, 0, 0));
        m.number(1, 5);
        check.same("5, 7, 6", 5, m.resume(0, 1, 2));
        check.same("5 takes the next number", 1, m.object(1, 0));
        check.same("21", 1, m.resume(0, 1, 2));
        check.same("15, then the table goes out", Told.object(1), m.resume(0, 1, 2));
        check.same("15", 1, m.object(1, 3));
        TriColourMachine none = Told.machine(op(5, 1, 0, 0), op(5, 2, 0, 0), op(15, 1, 2, 0),
            op(15, 1, 3, 0), op(21, 3, 2, 0), op(RETURN, 3, 0, 0));
        check.same("21 of none", 0, none.resume(0, 1, 2));
        check.same("15 with nil", -1, none.object(1, 3));
        check.same("6 of a nil key", Told.NIL,
            outcome(op(5, 1, 0, 0), op(6, 0, 1, 2), op(RETURN, 0, 0, 0)));
        check.same("7 with nil takes away", 0, outcome(op(5, 1, 0, 0), op(7, 1, 0, 0), op(7, 1, 0, 2),
            op(21, 3, 1, 0), op(RETURN, 3, 0, 0)));
    }

    private static void keys(Check check) {
        TriColourMachine m = Told.machine(op(18, 2, 0, 0), op(20, 1, 0, 2), op(2, 2, 1, 0), op(12, 0, 0, 0));
        m.make(1, -1);
        Told.put(m, 1, 30, 1);
        Told.put(m, 1, 10, 2);
        Told.put(m, 1, 20, 3);
        m.resume(0, 1, 2);
        m.move(3, -1);
        check.same("20 of nil: the first", 30, m.resume(0, 3, 3));
        check.same("20: the next", 10, m.resume(0, 3, 3));
        check.same("20: the last", 20, m.resume(0, 3, 3));
        check.same("20: none", Told.NIL, m.resume(0, 3, 3));
        m.number(3, 11);
        check.throwsA("20: not there", Check.WRONG, () -> m.resume(0, 3, 3));
        check.same("20 of 0, which is a key like others", 8, outcome(op(5, 1, 0, 0), op(1, 2, 0, 8),
            op(7, 1, 2, 2), op(1, 3, 0, 0), op(7, 1, 3, 3), op(0, 0, 0, 0), op(7, 1, 2, 0), op(7, 1, 2, 2),
            op(20, 0, 1, 3), op(RETURN, 0, 0, 0)));
        check.same("20 of an empty one", Told.NIL, outcome(op(5, 1, 0, 0), op(1, 3, 0, 9), op(20, 3, 1, 2),
            op(RETURN, 3, 0, 0)));
        TriColourMachine meta = Told.machine(op(20, 3, 0, 1), op(RETURN, 3, 0, 0));
        meta.make(1, -1);
        meta.make(2, -1);
        meta.make(3, -1);
        meta.meta(1, 2);
        Told.link(meta, 2, 0, 3);
        Told.put(meta, 3, 7, 7);
        check.same("20 looks in no other table", Told.NIL, meta.resume(0, 1, 4));
    }

    /** Does the row at 3, with a TABLE in REGISTER 1, a COROUTINE in 2, NIL in 3 and 5 in 0. */
    private static void wrongRow(Check check, int[] row) {
        TriColourMachine m = Told.machine(op(5, 1, 0, 0), op(16, 2, 0, 3), op(0, 3, 0, 0), row);
        m.number(1, 5);
        String text = row[0] + " " + row[1] + " " + row[2] + " " + row[3];
        check.throwsA(text, Check.WRONG, () -> m.resume(0, 1, 2));
        check.same(text + " at its place", 3, m.object(0, 2));
        check.same(text + " dead", 3, m.object(0, 3));
        check.same(text + " begun", 4, m.count(5));
        check.same(text + " register 0", 5, m.inside(0, 0, false));
        check.same(text + " register 1", Told.object(1), m.inside(0, 1, false));
        check.same(text + " register 2", Told.object(2), m.inside(0, 2, false));
        check.same(text + " register 3", Told.NIL, m.inside(0, 3, false));
        check.same(text + " the other is fresh", 0, m.object(2, 3));
        check.same(text + " pairs", 0, m.object(1, 2));
        check.same(text + " meta", -1, m.object(1, 3));
        check.same(text + " to", Told.NIL, m.global(2));
    }

    private static void wrongOnes(Check check) {
        for (int other : new int[] {0, 2, 3}) {
            wrongRow(check, op(6, 3, other, 0));
            wrongRow(check, op(6, 3, other, 3));
            wrongRow(check, op(7, other, 0, 0));
            wrongRow(check, op(15, other, 1, 0));
            wrongRow(check, op(15, other, 3, 0));
            wrongRow(check, op(20, 0, other, 3));
            wrongRow(check, op(21, 0, other, 0));
        }
        for (int other : new int[] {1, 2, 3}) {
            for (int op = 8; op <= 10; op++) {
                wrongRow(check, op(op, 3, other, 0));
                wrongRow(check, op(op, 3, 0, other));
            }
            wrongRow(check, op(11, other, 0, 0));
            wrongRow(check, op(11, 0, other, 0));
            wrongRow(check, op(20, 0, 1, other == 3 ? 0 : other));
        }
        for (int other : new int[] {0, 1, 3}) {
            wrongRow(check, op(17, 3, other, 0));
        }
        wrongRow(check, op(7, 1, 3, 0));
        wrongRow(check, op(7, 1, 3, 3));
        wrongRow(check, op(15, 1, 0, 0));
        wrongRow(check, op(15, 1, 2, 0));
    }

    private static void coroutines(Check check) {
        TriColourMachine m = Told.machine(op(16, 1, 0, -1), op(17, 2, 1, 0), op(17, 3, 1, 2),
            op(8, 3, 3, 2), op(RETURN, 3, 0, 0));
        Told.program(m, 3, op(1, 1, 0, 10), op(10, 1, 1, 0), op(18, 1, 0, 0), op(RETURN, 1, 0, 0));
        m.number(1, 5);
        check.same("16, 17, 18, 19", 100, m.resume(0, 1, 2));
        check.same("16 takes the next number", 2, m.object(1, 0));
        check.same("the inner one is dead", 3, m.object(1, 3));
        check.same("what came in", 50, m.inside(1, 1, false));
        check.same("begun", 9, m.count(5));
        check.same("behind the return", 4, m.object(1, 2));
        check.same("behind the outer return", 5, m.object(0, 2));
    }

    private static void wrongChangesNothing(Check check) {
        TriColourMachine m = Told.machine(op(5, 1, 0, 0), op(4, 1, 0, 3), op(1, 2, 0, 9),
            op(7, 1, 2, 2), op(8, 1, 1, 1));
        m.number(2, 4);
        check.throwsA("a table plus itself", Check.WRONG, () -> m.resume(0, 1, 2));
        check.same("what was done stays done", Told.object(1), m.global(3));
        check.same("the pair too", 1, m.object(1, 2));
        check.same("to is as it was", 4, m.global(2));
    }
}
