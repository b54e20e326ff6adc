/** The edges in the sentences on INSTRUCTIONS, each sentence by itself. */
public final class InstructionBoundaryTest {
    private static final int[][] MODULO_4 = {{-5, 3}, {-4, 0}, {-3, 1}, {-2, 2}, {-1, 3}, {0, 0}, {3, 3}, {4, 0},
        {5, 1}, {7, 3}, {8, 0}, {Told.MIN, 0}, {Told.MIN + 1, 1}, {Told.MAX - 1, 2}, {Told.MAX, 3}};
    private static final int[][] MODULO_6 = {{-7, 5}, {-6, 0}, {-5, 1}, {-1, 5}, {0, 0}, {5, 5}, {6, 0}, {7, 1},
        {11, 5}, {12, 0}, {Told.MIN, 4}, {Told.MAX, 1}};
    private static final int[][] MODULO_16 = {{-17, 15}, {-16, 0}, {-14, 2}, {-1, 15}, {0, 0}, {15, 15}, {16, 0},
        {18, 2}, {31, 15}, {32, 0}, {Told.MIN, 0}, {Told.MAX, 15}};

    public static void main(String[] args) {
        Check check = new Check("InstructionBoundaryTest");
        nothingAtFirst(check);
        registers(check);
        simpleOnes(check);
        tableOnes(check);
        returning(check);
        onePlaceMore(check);
        yieldAndReturnAtTheEnd(check);
        nothingIsWrong(check);
        number16(check);
        globals(check);
        wrapping(check);
        notNumbers(check);
        below(check);
        places(check);
        notJumping(check);
        metas(check);
        functions(check);
        resumingOthers(check);
        yielding(check);
        nextKeys(check);
        howMany(check);
        askedOnes(check);
        check.end();
    }

    private static int[] op(int op, int a, int b, int c) {
        return Told.op(op, a, b, c);
    }

    private static void nothingAtFirst(Check check) {
        check.sentence("FUNCTIONS have INSTRUCTIONS 0 .. 15, an OP with three ARGUMENTS a, b, c, each NOTHING at first.");
        for (int f = 0; f < 4; f++) {
            for (int i = 0; i < 16; i++) {
                TriColourMachine m = new TriColourMachine();
                if (i > 0) {
                    m.code(f, 0, 12, 0, 0, i);
                }
                m.make(0, f);
                check.throwsA("function " + f + " at " + i, Check.WRONG, () -> m.resume(0, 1, 2));
                check.same("stands there", i, m.object(0, 2));
            }
        }
    }

    /** REGISTERS 0 .. 3 are 100 .. 103; then the row is done. */
    private static TriColourMachine after(int[] row) {
        TriColourMachine m = Told.machine(op(1, 0, 0, 100), op(1, 1, 0, 101), op(1, 2, 0, 102), op(1, 3, 0, 103),
            row, op(18, 0, 0, 0));
        m.resume(0, 1, 2);
        return m;
    }

    private static void registers(Check check) {
        check.sentence("A, B, C are the REGISTERS of the numbers a, b, c modulo 4, from 0 on, and n is c.");
        for (int[] x : MODULO_4) {
            TriColourMachine m = after(op(1, x[0], 0, x[0]));
            for (int i = 0; i < 4; i++) {
                check.same("a " + x[0] + ": register " + i, i == x[1] ? x[0] : 100 + i, m.inside(0, i, false));
            }
            check.same("b " + x[0], 100 + x[1], after(op(2, 0, x[0], 0)).inside(0, 0, false));
            check.same("c " + x[0], 200 + x[1], after(op(8, 0, 0, x[0])).inside(0, 0, false));
        }
    }

    private static void simpleOnes(Check check) {
        check.sentence("0 A is NIL. 1 A is the NUMBER n. 2 A is B.");
        for (int a = 0; a < 4; a++) {
            check.same("nil in " + a, Told.NIL, after(op(0, a, 0, 0)).inside(0, a, false));
            for (int n : new int[] {Told.MIN, -1, 0, Told.MAX}) {
                check.same("number in " + a, n, after(op(1, a, 0, n)).inside(0, a, false));
            }
            for (int b = 0; b < 4; b++) {
                TriColourMachine m = after(op(2, a, b, 0));
                check.same(a + " from " + b, 100 + b, m.inside(0, a, false));
                check.same(b + " stays", 100 + b, m.inside(0, b, false));
            }
        }
    }

    private static void tableOnes(Check check) {
        check.sentence("5 A is a NEW TABLE. 6 A is what GETTING the KEY C of B gives. 7 SETTING the KEY B of A to C.");
        TriColourMachine m = Told.machine(op(5, 1, 0, 0), op(18, 1, 0, 0), op(7, 0, 1, 2), op(18, 0, 0, 0));
        check.same("the least free number", Told.object(1), m.resume(0, 2, 3));
        check.same("an empty table", 0, m.object(1, 2));
        check.same("without a meta", -1, m.object(1, 3));
        // One REGISTER for all: the TABLE is its own KEY and VALUE, and then A is what it gives.
        TriColourMachine own = Told.machine(op(5, 1, 0, 0), op(7, 1, 1, 1), op(6, 1, 1, 1), op(19, 1, 0, 0));
        check.same("itself", Told.object(1), own.resume(0, 2, 3));
        check.same("one pair", 1, own.object(1, 2));
        TriColourMachine none = Told.machine(op(5, 1, 0, 0), op(6, 1, 1, 1), op(19, 1, 0, 0));
        check.same("of an empty one", Told.NIL, none.resume(0, 2, 3));
    }

    private static void returning(Check check) {
        check.sentence("19 RETURN A: it is DEAD, the VALUE goes out.");
        for (int[] x : MODULO_4) {
            TriColourMachine m = Told.machine(op(1, 0, 0, 100), op(1, 1, 0, 101), op(1, 2, 0, 102),
                op(1, 3, 0, 103), op(19, x[0], 0, 0), op(19, 0, 0, 0));
            check.same("out of " + x[0], 100 + x[1], m.resume(0, 1, 2));
            check.same("dead", 3, m.object(0, 3));
            check.refused("no more", Check.WRONG, m, () -> m.resume(0, 1, 2));
        }
        TriColourMachine nil = Told.machine(op(19, 3, 0, 0));
        nil.number(2, 5);
        check.same("nil goes out", Told.NIL, nil.resume(0, 2, 2));
        check.same("and is the outcome", Told.NIL, nil.global(2));
    }

    /** The row at 15, with 5 in REGISTER 0, a TABLE in 1, a COROUTINE in 2 and NIL in 3. */
    private static TriColourMachine atTheEnd(int[] row) {
        TriColourMachine m = Told.machine(op(5, 1, 0, 0), op(16, 2, 0, 3), op(12, 0, 0, 15));
        m.code(0, 15, row[0], row[1], row[2], row[3]);
        m.code(3, 0, 19, 0, 0, 0);
        m.number(1, 5);
        return m;
    }

    private static void onePlaceMore(Check check) {
        check.sentence("After each the PLACE is one more, if nothing else is said;");
        int[][] rows = {op(0, 3, 0, 0), op(1, 3, 0, 9), op(2, 3, 0, 0), op(3, 3, 0, 0), op(4, 3, 0, 5),
            op(5, 3, 0, 0), op(6, 3, 1, 0), op(7, 1, 0, 0), op(8, 3, 0, 0), op(9, 3, 0, 0), op(10, 3, 0, 0),
            op(11, 0, 0, 7), op(13, 0, 0, 7), op(14, 0, 3, 7), op(15, 1, 3, 0), op(16, 3, 0, 3), op(17, 3, 2, 0),
            op(20, 3, 1, 3), op(21, 3, 1, 0)};
        for (int[] row : rows) {
            TriColourMachine m = atTheEnd(row);
            check.throwsA("then 16 is wrong: " + row[0], Check.WRONG, () -> m.resume(0, 1, 2));
            check.same("behind " + row[0], 16, m.object(0, 2));
            check.same("it was done: " + row[0], row[0] == 17 ? 5 : 4, m.count(5));
        }
    }

    private static void yieldAndReturnAtTheEnd(Check check) {
        check.sentence("After each the PLACE is one more, if nothing else is said;");
        TriColourMachine yields = atTheEnd(op(18, 0, 0, 0));
        check.same("yielded", 5, yields.resume(0, 1, 2));
        check.same("behind the yield", 16, yields.object(0, 2));
        TriColourMachine returns = atTheEnd(op(19, 0, 0, 0));
        check.same("returned", 5, returns.resume(0, 1, 2));
        check.same("behind the return too", 16, returns.object(0, 2));
        TriColourMachine first = Told.machine(op(19, 0, 0, 0));
        first.resume(0, 1, 2);
        check.same("a return at 0", 1, first.object(0, 2));
    }

    private static void nothingIsWrong(Check check) {
        check.sentence("it is WRONG to do an INSTRUCTION that is NOTHING, or number 16.");
        for (int i = 0; i < 16; i++) {
            TriColourMachine m = new TriColourMachine();
            for (int k = 0; k < 16; k++) {
                m.code(0, k, 1, 1, 0, k);
            }
            m.code(0, i, -1, 0, 0, 0);
            m.make(0, 0);
            m.number(1, 5);
            check.throwsA("nothing at " + i, Check.WRONG, () -> m.resume(0, 1, 2));
            check.same("place", i, m.object(0, 2));
            check.same("dead", 3, m.object(0, 3));
            check.same("begun are only those before", i, m.count(5));
            check.same("done are those before", i == 0 ? Told.NIL : i - 1, m.inside(0, 1, false));
            check.same("the value came in", 5, m.inside(0, 0, false));
        }
    }

    private static void number16(Check check) {
        check.sentence("it is WRONG to do an INSTRUCTION that is NOTHING, or number 16.");
        for (int f = 0; f < 4; f++) {
            TriColourMachine m = new TriColourMachine();
            for (int all = 0; all < 4; all++) {
                for (int k = 0; k < 16; k++) {
                    m.code(all, k, 1, 1, 0, k);
                }
            }
            m.make(0, f);
            check.throwsA("16 of function " + f, Check.WRONG, () -> m.resume(0, 1, 2));
            check.same("place", 16, m.object(0, 2));
            check.same("dead", 3, m.object(0, 3));
            check.same("begun", 16, m.count(5));
            check.same("15 was done", 15, m.inside(0, 1, false));
        }
        TriColourMachine yields = atTheEnd(op(18, 2, 0, 0));
        yields.resume(0, 1, 2);
        check.throwsA("16 behind a yield", Check.WRONG, () -> yields.resume(0, 1, 2));
        check.same("what came in", 5, yields.inside(0, 2, false));
        check.same("still there", 16, yields.object(0, 2));
    }

    private static void globals(Check check) {
        check.sentence("3 A is GLOBAL n modulo 6. 4 GLOBAL n modulo 6 is A.");
        for (int[] x : MODULO_6) {
            TriColourMachine reads = Told.machine(op(3, 1, 0, x[0]), op(19, 1, 0, 0));
            TriColourMachine writes = Told.machine(op(1, 1, 0, 77), op(4, 1, 0, x[0]), op(18, 2, 0, 0));
            for (int g = 1; g < 6; g++) {
                reads.number(g, 200 + g);
                writes.number(g, 200 + g);
            }
            check.same("3 of " + x[0], x[1] == 0 ? Told.object(0) : 200 + x[1], reads.resume(0, 1, 1));
            int to = x[1] == 3 ? 4 : 3;
            writes.resume(0, 1, to);
            for (int g = 0; g < 6; g++) {
                long before = g == 0 ? Told.object(0) : 200 + g;
                check.same("4 of " + x[0] + ": " + g, g == to ? Told.NIL : g == x[1] ? 77 : before, writes.global(g));
            }
        }
    }

    private static long calculated(int op, int left, int right) {
        TriColourMachine m = Told.machine(op(1, 1, 0, left), op(1, 2, 0, right), op(op, 3, 1, 2), op(19, 3, 0, 0));
        return m.resume(0, 1, 2);
    }

    private static void wrapping(Check check) {
        check.sentence("8 A is B + C, 9 B - C, 10 B * C, NUMBERS, wrapping (else WRONG).");
        check.same("most + 1", Told.MIN, calculated(8, Told.MAX, 1));
        check.same("most + most", -2, calculated(8, Told.MAX, Told.MAX));
        check.same("least + least", 0, calculated(8, Told.MIN, Told.MIN));
        check.same("least + -1", Told.MAX, calculated(8, Told.MIN, -1));
        check.same("most + 0", Told.MAX, calculated(8, Told.MAX, 0));
        check.same("least - 1", Told.MAX, calculated(9, Told.MIN, 1));
        check.same("most - -1", Told.MIN, calculated(9, Told.MAX, -1));
        check.same("0 - least", Told.MIN, calculated(9, 0, Told.MIN));
        check.same("least - most", 1, calculated(9, Told.MIN, Told.MAX));
        check.same("least - least", 0, calculated(9, Told.MIN, Told.MIN));
        check.same("least * -1", Told.MIN, calculated(10, Told.MIN, -1));
        check.same("most * 2", -2, calculated(10, Told.MAX, 2));
        check.same("65536 * 65536", 0, calculated(10, 65536, 65536));
        check.same("65536 * 32768", Told.MIN, calculated(10, 65536, 32768));
        check.same("most * most", 1, calculated(10, Told.MAX, Told.MAX));
        check.same("least * least", 0, calculated(10, Told.MIN, Told.MIN));
    }

    /** The row is WRONG, with 5 in REGISTER 0, a TABLE in 1, a FRESH COROUTINE in 2 and NIL in 3. */
    private static void wrong(Check check, int[] row) {
        TriColourMachine m = Told.machine(op(5, 1, 0, 0), op(16, 2, 0, 3), row);
        m.number(1, 5);
        m.number(2, 6);
        String text = row[0] + " " + row[1] + " " + row[2] + " " + row[3];
        check.throwsA(text, Check.WRONG, () -> m.resume(0, 1, 2));
        check.same(text + " stands there", 2, m.object(0, 2));
        check.same(text + " register 0", 5, m.inside(0, 0, false));
        check.same(text + " register 3", Told.NIL, m.inside(0, 3, false));
        check.same(text + " pairs", 0, m.object(1, 2));
        check.same(text + " meta", -1, m.object(1, 3));
        check.same(text + " the other one", 0, m.object(2, 3));
        check.same(text + " to", 6, m.global(2));
    }

    private static void notNumbers(Check check) {
        check.sentence("8 A is B + C, 9 B - C, 10 B * C, NUMBERS, wrapping (else WRONG).");
        for (int op = 8; op <= 10; op++) {
            for (int other = 1; other <= 3; other++) {
                wrong(check, op(op, 3, other, 0));
                wrong(check, op(op, 3, 0, other));
                wrong(check, op(op, 3, other, other));
            }
        }
    }

    /** The PLACE to which the row at 1 leads, with 5 in REGISTER 0, 6 in 1 and NIL in 2 and 3. */
    private static int leadsTo(Check check, int[] row) {
        TriColourMachine m = Told.machine(op(18, 1, 0, 0), row);
        m.number(1, 5);
        m.resume(0, 1, 2);
        // All but the row is NOTHING then, and so the COROUTINE stands where it leads.
        m.code(0, 0, -1, 0, 0, 0);
        m.number(1, 6);
        check.throwsA("at nothing", Check.WRONG, () -> m.resume(0, 1, 2));
        return m.object(0, 2);
    }

    private static long isBelow(int left, int right) {
        TriColourMachine m = Told.machine(op(1, 1, 0, left), op(1, 2, 0, right), op(11, 1, 2, 5), op(1, 3, 0, 0),
            op(19, 3, 0, 0), op(1, 3, 0, 1), op(19, 3, 0, 0));
        return m.resume(0, 1, 2);
    }

    private static void below(Check check) {
        check.sentence("11 if A is below B (NUMBERS, else WRONG), the PLACE is n modulo 16.");
        check.same("-1 and 0", 1, isBelow(-1, 0));
        check.same("0 and 0", 0, isBelow(0, 0));
        check.same("0 and -1", 0, isBelow(0, -1));
        check.same("the least and the most", 1, isBelow(Told.MIN, Told.MAX));
        check.same("the most and the least", 0, isBelow(Told.MAX, Told.MIN));
        check.same("the most twice", 0, isBelow(Told.MAX, Told.MAX));
        check.same("the least twice", 0, isBelow(Told.MIN, Told.MIN));
        check.same("one below the most", 1, isBelow(Told.MAX - 1, Told.MAX));
        for (int other = 1; other <= 3; other++) {
            wrong(check, op(11, other, 0, 7));
            wrong(check, op(11, 0, other, 7));
        }
        wrong(check, op(11, 3, 3, 7));
        for (int[] x : MODULO_16) {
            check.same("11 to " + x[0], x[1], leadsTo(check, op(11, 0, 1, x[0])));
        }
    }

    private static void places(Check check) {
        check.sentence("12 the PLACE is n modulo 16. 13 if A is NIL, that. 14 if A and B are ALIKE, that.");
        for (int[] x : MODULO_16) {
            check.same("12 to " + x[0], x[1], leadsTo(check, op(12, 0, 0, x[0])));
            check.same("13 to " + x[0], x[1], leadsTo(check, op(13, 2, 0, x[0])));
            check.same("14 to " + x[0], x[1], leadsTo(check, op(14, 2, 3, x[0])));
        }
    }

    private static void notJumping(Check check) {
        check.sentence("13 if A is NIL, that. 14 if A and B are ALIKE, that.");
        check.same("11, not below", 2, leadsTo(check, op(11, 1, 0, 9)));
        check.same("13 of a number", 2, leadsTo(check, op(13, 0, 0, 9)));
        check.same("14 of two numbers", 2, leadsTo(check, op(14, 0, 1, 9)));
        check.same("14 of nil and a number", 2, leadsTo(check, op(14, 2, 1, 9)));
        check.same("14 of one register", 9, leadsTo(check, op(14, 0, 0, 9)));
    }

    private static void metas(Check check) {
        check.sentence("15 the META of A is B (a TABLE, or NIL for none; else WRONG; A must be a TABLE, else WRONG).");
        wrong(check, op(15, 1, 0, 0));
        wrong(check, op(15, 1, 2, 0));
        for (int other : new int[] {0, 2, 3}) {
            for (int b = 0; b < 4; b++) {
                wrong(check, op(15, other, b, 0));
            }
        }
        TriColourMachine m = Told.machine(op(5, 1, 0, 0), op(15, 1, 1, 0), op(18, 0, 0, 0), op(15, 1, 3, 0),
            op(15, 1, 3, 0), op(18, 0, 0, 0));
        m.resume(0, 1, 2);
        check.same("itself", 1, m.object(1, 3));
        m.resume(0, 1, 2);
        check.same("none, and none again", -1, m.object(1, 3));
    }

    private static void functions(Check check) {
        check.sentence("16 A is a NEW COROUTINE of the FUNCTION n modulo 4.");
        for (int[] x : MODULO_4) {
            TriColourMachine m = Told.machine(op(16, 1, 0, x[0]), op(18, 1, 0, 0));
            m.resume(0, 1, 3);
            for (int f = 0; f < 4; f++) {
                Told.program(m, f, op(1, 0, 0, 100 + f), op(19, 0, 0, 0));
            }
            check.same("of " + x[0], 100 + x[1], m.resume(3, 1, 2));
        }
    }

    private static void resumingOthers(Check check) {
        check.sentence("17 A is the outcome of RESUMING B (a COROUTINE, else WRONG) with C.");
        for (int other : new int[] {0, 1, 3}) {
            wrong(check, op(17, 3, other, 0));
        }
        TriColourMachine m = Told.machine(op(16, 1, 0, 1), op(17, 1, 1, 1), op(19, 1, 0, 0));
        m.code(1, 0, 19, 0, 0, 0);
        check.same("a, b and c the same register", Told.object(1), m.resume(0, 1, 2));
    }

    private static void yielding(Check check) {
        check.sentence("18 YIELD A: the COROUTINE is YIELDED, its PLACE behind that, the VALUE goes out; "
            + "A will be what comes in.");
        for (int[] x : MODULO_4) {
            TriColourMachine m = Told.machine(op(1, 0, 0, 100), op(1, 1, 0, 101), op(1, 2, 0, 102),
                op(1, 3, 0, 103), op(18, x[0], 0, 0), op(18, 0, 0, 0));
            check.same("out of " + x[0], 100 + x[1], m.resume(0, 1, 2));
            check.same("yielded", 1, m.object(0, 3));
            check.same("behind", 5, m.object(0, 2));
            m.number(1, 5);
            m.resume(0, 1, 2);
            for (int i = 0; i < 4; i++) {
                check.same("in by " + x[0] + ": " + i, i == x[1] ? 5 : 100 + i, m.inside(0, i, false));
            }
        }
    }

    /** GLOBAL 0 is a COROUTINE that answers the KEY of GLOBAL 1's TABLE that comes after what comes in. */
    private static TriColourMachine asksKeys() {
        TriColourMachine m = Told.machine(op(18, 2, 0, 0), op(20, 2, 0, 2), op(12, 0, 0, 0));
        m.make(1, -1);
        m.resume(0, 1, 5);
        return m;
    }

    private static void nextKeys(Check check) {
        check.sentence("20 A is the KEY that comes after the KEY C in B (NIL: the first one; not there: WRONG; "
            + "none after it: NIL).");
        TriColourMachine m = asksKeys();
        check.same("nil of an empty one", Told.NIL, m.resume(0, 3, 5));
        int[] keys = {4, 0, Told.MIN, Told.MAX, -1, 1};
        for (int key : keys) {
            Told.put(m, 1, key, 9);
        }
        check.same("the first of six", 4, m.resume(0, 3, 5));
        for (int i = 0; i < 6; i++) {
            m.number(2, keys[i]);
            check.same("after " + keys[i], i == 5 ? Told.NIL : keys[i + 1], m.resume(0, 2, 5));
        }
        m.number(2, 5);
        check.throwsA("not there", Check.WRONG, () -> m.resume(0, 2, 5));
        TriColourMachine empty = asksKeys();
        empty.number(2, 0);
        check.throwsA("not in an empty one", Check.WRONG, () -> empty.resume(0, 2, 5));
        TriColourMachine away = asksKeys();
        Told.put(away, 1, 7, 70);
        Told.put(away, 1, 8, 80);
        away.number(2, 7);
        check.same("there", 8, away.resume(0, 2, 5));
        away.set(1, 2, 3);
        check.same("nil: the first that is left", 8, away.resume(0, 3, 5));
        check.throwsA("taken away", Check.WRONG, () -> away.resume(0, 2, 5));
        TriColourMachine only = asksKeys();
        Told.put(only, 1, 7, 70);
        only.number(2, 7);
        check.same("the only one", Told.NIL, only.resume(0, 2, 5));
        TriColourMachine further = asksKeys();
        further.meta(1, 1);
        Told.link(further, 1, 0, 1);
        further.number(2, 70);
        check.throwsA("others are not asked", Check.WRONG, () -> further.resume(0, 2, 5));
    }

    private static void howMany(Check check) {
        check.sentence("21 A is how many PAIRS B has.");
        TriColourMachine m = Told.machine(op(18, 2, 0, 0), op(21, 2, 0, 0), op(12, 0, 0, 0));
        m.make(1, -1);
        m.resume(0, 1, 5);
        check.same("none", 0, m.resume(0, 3, 2));
        for (int k = 1; k <= 6; k++) {
            Told.put(m, 1, k, k);
            check.same("so many", k, m.resume(0, 3, 2));
        }
        m.number(4, 6);
        m.set(1, 4, 3);
        check.same("one less", 5, m.resume(0, 3, 2));
    }

    private static void askedOnes(Check check) {
        check.sentence("In 6, 7, 20, 21 the one that is asked must be a TABLE, else WRONG.");
        for (int other : new int[] {0, 2, 3}) {
            wrong(check, op(6, 3, other, 0));
            wrong(check, op(6, 3, other, 3));
            wrong(check, op(7, other, 0, 0));
            wrong(check, op(7, other, 0, 3));
            wrong(check, op(20, 3, other, 0));
            wrong(check, op(20, 3, other, 3));
            wrong(check, op(21, 3, other, 0));
        }
    }
}
