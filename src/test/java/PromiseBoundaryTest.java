/** The edges in the promises' own sentences and in those on exceptions, each sentence by itself. */
public final class PromiseBoundaryTest {
    private static final int[] NO_GLOBAL = {-1, 6, 7, 16, Told.MIN, Told.MAX};
    private static final String INSIDE = "The KEY (value false) or VALUE of PAIR i (from 0) of OBJECT n, "
        + "or REGISTER i of a COROUTINE (both value false), told. Not there: not there.";

    public static void main(String[] args) {
        Check check = new Check("PromiseBoundaryTest");
        aNewOne(check);
        code(check);
        number(check);
        move(check);
        make(check);
        set(check);
        get(check);
        meta(check);
        resume(check);
        resumeTo(check);
        collect(check);
        full(check);
        global(check);
        object(check);
        objectOfAFreeOne(check);
        insideATable(check);
        insideACoroutine(check);
        insideBelowZero(check);
        count(check);
        countOfPhases(check);
        badComesFirst(check);
        kindsOfTrouble(check);
        throwingChangesNothing(check);
        whatWasDoneOnTheWay(check);
        check.end();
    }

    private static int[] op(int op, int a, int b, int c) {
        return Told.op(op, a, b, c);
    }

    /** GLOBAL 0 is a TABLE (PAIR 1: 1), 1 a FRESH COROUTINE, 2 the NUMBER 1, 3 to 5 are NIL. */
    private static TriColourMachine some() {
        TriColourMachine m = new TriColourMachine();
        m.make(0, -1);
        m.make(1, 0);
        m.number(2, 1);
        m.set(0, 2, 2);
        return m;
    }

    private static void aNewOne(Check check) {
        check.sentence("Nothing is there; it RESTS.");
        TriColourMachine m = new TriColourMachine();
        for (int n = 0; n < 16; n++) {
            check.same("free " + n, 0, m.object(n, 0));
        }
        for (int g = 0; g < 6; g++) {
            check.same("nil " + g, Told.NIL, m.global(g));
        }
        for (int what = 0; what <= 8; what++) {
            check.same("count " + what, 0, m.count(what));
        }
    }

    private static void code(Check check) {
        check.sentence("INSTRUCTION i (0 .. 15) of FUNCTION f (0 .. 3) becomes that: op 0 .. 21 (-1: NOTHING), any a, b, c.");
        TriColourMachine m = some();
        for (int bad : new int[] {-1, 4, 16, Told.MIN, Told.MAX}) {
            check.refused("f " + bad, Check.BAD, m, () -> m.code(bad, 0, 0, 0, 0, 0));
        }
        for (int bad : new int[] {-1, 16, 17, Told.MIN, Told.MAX}) {
            check.refused("i " + bad, Check.BAD, m, () -> m.code(0, bad, 0, 0, 0, 0));
        }
        for (int bad : new int[] {-2, 22, 23, Told.MIN, Told.MAX}) {
            check.refused("op " + bad, Check.BAD, m, () -> m.code(0, 0, bad, 0, 0, 0));
            check.refused("op " + bad + " at the last", Check.BAD, m, () -> m.code(3, 15, bad, 0, 0, 0));
        }
        for (int f = 0; f < 4; f++) {
            for (int i = 0; i < 16; i++) {
                TriColourMachine at = new TriColourMachine();
                at.code(f, 0, 12, 0, 0, i);
                at.code(f, i, 19, Told.MIN, Told.MAX, Told.MIN);
                at.make(0, f);
                check.same("coded " + f + " " + i, Told.object(0), at.resume(0, 0, 1));
            }
        }
        lastOpAndNothing(check);
    }

    private static void lastOpAndNothing(Check check) {
        TriColourMachine m = Told.machine(op(21, 3, 0, 0), op(19, 3, 0, 0));
        m.make(1, -1);
        check.same("op 21", 0, m.resume(0, 1, 2));
        TriColourMachine first = Told.machine(op(0, 0, 0, 0), op(19, 0, 0, 0));
        check.same("op 0", Told.NIL, first.resume(0, 0, 2));
        TriColourMachine none = Told.machine(op(19, 0, 0, 0));
        none.code(0, 0, -1, 19, 19, 19);
        check.throwsA("op -1", Check.WRONG, () -> none.resume(0, 0, 2));
        TriColourMachine kept = Told.machine(op(19, 0, 0, 0));
        for (int bad : new int[] {-2, 22}) {
            check.throwsA("refused " + bad, Check.BAD, () -> kept.code(0, 0, bad, 0, 0, 0));
        }
        check.same("a refused code changes nothing", Told.object(0), kept.resume(0, 0, 2));
    }

    private static void number(Check check) {
        check.sentence("GLOBAL g (0 .. 5) becomes the NUMBER.");
        TriColourMachine m = some();
        for (int bad : NO_GLOBAL) {
            check.refused("g " + bad, Check.BAD, m, () -> m.number(bad, 5));
        }
        for (int g = 0; g < 6; g++) {
            for (int v : new int[] {Told.MIN, -1, 0, Told.MAX}) {
                m.number(g, v);
                check.same("global " + g, v, m.global(g));
            }
        }
    }

    private static void move(Check check) {
        check.sentence("GLOBAL g becomes what GLOBAL h is, or NIL (h = -1).");
        TriColourMachine m = some();
        for (int bad : NO_GLOBAL) {
            check.refused("g " + bad, Check.BAD, m, () -> m.move(bad, 0));
            check.refused("g " + bad + " to nil", Check.BAD, m, () -> m.move(bad, -1));
        }
        for (int bad : new int[] {-2, 6, Told.MIN, Told.MAX}) {
            check.refused("h " + bad, Check.BAD, m, () -> m.move(0, bad));
        }
        m.move(5, 0);
        check.same("5 from 0", Told.object(0), m.global(5));
        m.move(0, 4);
        check.same("nil from 4", Told.NIL, m.global(0));
        m.move(0, 5);
        check.same("0 from 5", Told.object(0), m.global(0));
        m.move(5, 5);
        check.same("itself", Told.object(0), m.global(5));
        m.move(5, -1);
        check.same("nil", Told.NIL, m.global(5));
        m.move(5, -1);
        check.same("nil again", Told.NIL, m.global(5));
    }

    private static void make(Check check) {
        check.sentence("GLOBAL g becomes a NEW TABLE, or a NEW COROUTINE of the FUNCTION (0 .. 3; -1: a TABLE). "
            + "Answers its number.");
        TriColourMachine m = some();
        for (int bad : NO_GLOBAL) {
            check.refused("g " + bad, Check.BAD, m, () -> m.make(bad, -1));
            check.refused("g " + bad, Check.BAD, m, () -> m.make(bad, 0));
        }
        for (int bad : new int[] {-2, 4, Told.MIN, Told.MAX}) {
            check.refused("function " + bad, Check.BAD, m, () -> m.make(0, bad));
        }
        for (int f = -1; f <= 3; f++) {
            check.same("number", 3 + f, m.make(3, f));
            check.same("kind", f < 0 ? 1 : 2, m.object(3 + f, 0));
            check.same("global", Told.object(3 + f), m.global(3));
        }
    }

    private static void set(Check check) {
        check.sentence("SETTING the KEY that is GLOBAL k of GLOBAL t (a TABLE, else WRONG) to GLOBAL v.");
        TriColourMachine m = some();
        for (int bad : NO_GLOBAL) {
            check.refused("t " + bad, Check.BAD, m, () -> m.set(bad, 2, 2));
            check.refused("k " + bad, Check.BAD, m, () -> m.set(0, bad, 2));
            check.refused("v " + bad, Check.BAD, m, () -> m.set(0, 2, bad));
        }
        for (int other = 1; other <= 3; other++) {
            int t = other;
            check.refused("no table: " + t, Check.WRONG, m, () -> m.set(t, 2, 2));
            check.refused("no table, nil: " + t, Check.WRONG, m, () -> m.set(t, 2, 3));
        }
        m.set(0, 0, 0);
        check.same("its own key", Told.object(0), m.inside(0, 1, false));
        check.same("and value", Told.object(0), m.inside(0, 1, true));
    }

    private static void get(Check check) {
        check.sentence("GLOBAL to becomes what GETTING the KEY that is GLOBAL k of GLOBAL t (a TABLE, else WRONG) gives; "
            + "that is told.");
        TriColourMachine m = some();
        for (int bad : NO_GLOBAL) {
            check.refused("t " + bad, Check.BAD, m, () -> m.get(bad, 2, 3));
            check.refused("k " + bad, Check.BAD, m, () -> m.get(0, bad, 3));
            check.refused("to " + bad, Check.BAD, m, () -> m.get(0, 2, bad));
        }
        for (int other = 1; other <= 3; other++) {
            int t = other;
            check.refused("no table: " + t, Check.WRONG, m, () -> m.get(t, 2, 3));
            check.refused("no table, nil: " + t, Check.WRONG, m, () -> m.get(t, 3, 2));
        }
        check.same("told", 1, m.get(0, 2, 5));
        check.same("to", 1, m.global(5));
        check.same("what is not there", Told.NIL, m.get(0, 0, 5));
        check.same("to is nil then", Told.NIL, m.global(5));
        check.same("into the table's own global", 1, m.get(0, 2, 0));
        check.same("which it was", 1, m.global(0));
    }

    private static void meta(Check check) {
        check.sentence("The META of GLOBAL t becomes GLOBAL m, as INSTRUCTION 15.");
        TriColourMachine m = some();
        for (int bad : NO_GLOBAL) {
            check.refused("t " + bad, Check.BAD, m, () -> m.meta(bad, 0));
            check.refused("m " + bad, Check.BAD, m, () -> m.meta(0, bad));
        }
        m.meta(0, 0);
        check.same("itself", 0, m.object(0, 3));
        check.refused("a coroutine", Check.WRONG, m, () -> m.meta(0, 1));
        check.refused("a number", Check.WRONG, m, () -> m.meta(0, 2));
        for (int t = 1; t <= 3; t++) {
            for (int other = 0; other <= 3; other++) {
                int a = t;
                int b = other;
                check.refused("of " + a + ": " + b, Check.WRONG, m, () -> m.meta(a, b));
            }
        }
        m.meta(0, 3);
        check.same("none", -1, m.object(0, 3));
    }

    private static void resume(Check check) {
        check.sentence("RESUMES GLOBAL g (a COROUTINE, else WRONG) with GLOBAL v; GLOBAL to becomes the outcome, "
            + "which is told.");
        TriColourMachine m = some();
        m.code(0, 0, 18, 0, 0, 0);
        for (int bad : NO_GLOBAL) {
            check.refused("g " + bad, Check.BAD, m, () -> m.resume(bad, 2, 3));
            check.refused("v " + bad, Check.BAD, m, () -> m.resume(1, bad, 3));
            check.refused("to " + bad, Check.BAD, m, () -> m.resume(1, 2, bad));
        }
        for (int other : new int[] {0, 2, 3}) {
            check.refused("no coroutine: " + other, Check.WRONG, m, () -> m.resume(other, 2, 3));
        }
        check.same("told", 1, m.resume(1, 2, 5));
        check.same("to", 1, m.global(5));
    }

    private static void resumeTo(Check check) {
        check.sentence("RESUMES GLOBAL g (a COROUTINE, else WRONG) with GLOBAL v; GLOBAL to becomes the outcome, "
            + "which is told.");
        TriColourMachine m = Told.machine(op(1, 1, 0, 7), op(4, 1, 0, 3), op(1, 1, 0, 8), op(18, 1, 0, 0),
            op(19, 2, 0, 0));
        check.same("told", 8, m.resume(0, 4, 3));
        check.same("the outcome comes after what the instructions put", 8, m.global(3));
        check.same("all in one global", Told.NIL, m.resume(0, 0, 0));
        check.same("which it was", Told.NIL, m.global(0));
    }

    private static void collect(Check check) {
        check.sentence("n UNITS (1 .. 100) of THE COLLECTOR. Answers how many OBJECTS went.");
        TriColourMachine m = some();
        for (int bad : new int[] {0, -1, 101, Told.MIN, Told.MAX}) {
            check.refused("n " + bad, Check.BAD, m, () -> m.collect(bad));
        }
        check.same("one", 0, m.collect(1));
        check.same("one unit", 1, m.count(7));
        TriColourMachine empty = new TriColourMachine();
        check.same("a hundred", 0, empty.collect(100));
        check.same("units", 100, empty.count(7));
        // Five rounds of 18, then 2 and 8 numbers.
        check.same("it sweeps", 2, empty.count(1));
        check.same("from 8", 8, empty.count(2));
        check.same("that is no full collection", 0, empty.count(8));
        TriColourMachine all = new TriColourMachine();
        for (int n = 0; n < 16; n++) {
            all.make(0, -1);
        }
        all.move(0, -1);
        check.same("two units", 0, all.collect(2));
        check.same("fifteen go", 15, all.collect(15));
        check.same("and one", 1, all.collect(100));
    }

    private static void full(Check check) {
        check.sentence("A FULL COLLECTION. Answers how many OBJECTS went.");
        TriColourMachine m = Told.fullChain();
        check.same("none", 0, m.full());
        m.move(0, -1);
        check.same("sixteen", 16, m.full());
        check.same("and none", 0, m.full());
        check.same("gone in all", 16, m.count(4));
        check.same("three of them", 3, m.count(8));
        TriColourMachine half = new TriColourMachine();
        for (int n = 0; n < 16; n++) {
            half.make(0, -1);
        }
        half.move(0, -1);
        half.collect(10);
        check.same("eight went before", 8, half.count(4));
        check.same("eight are left for it", 8, half.full());
    }

    private static void global(Check check) {
        check.sentence("GLOBAL g, told.");
        TriColourMachine m = some();
        for (int bad : NO_GLOBAL) {
            check.refused("g " + bad, Check.BAD, m, () -> m.global(bad));
        }
        long[] want = {Told.object(0), Told.object(1), 1, Told.NIL, Told.NIL, Told.NIL};
        for (int g = 0; g < 6; g++) {
            check.same("global " + g, want[g], m.global(g));
        }
    }

    private static void object(Check check) {
        check.sentence("Of OBJECT n (0 .. 15): 0 free, 1 a TABLE, 2 a COROUTINE (what 0); 0 WHITE, 1 GRAY, 2 BLACK (1); "
            + "how many PAIRS, or its PLACE (2); its META's number, -1 for none, or 0 FRESH, 1 YIELDED, 3 DEAD (3).");
        TriColourMachine m = some();
        for (int bad : new int[] {-1, 16, 17, 99, Told.MIN, Told.MAX}) {
            for (int what = -1; what <= 4; what++) {
                int w = what;
                check.refused("n " + bad + " " + w, Check.BAD, m, () -> m.object(bad, w));
            }
        }
        for (int bad : new int[] {-1, 4, 5, Told.MIN, Told.MAX}) {
            for (int n : new int[] {0, 1, 2, 15}) {
                check.refused("what " + bad + " of " + n, Check.BAD, m, () -> m.object(n, bad));
            }
        }
        check.same("a table", 1, m.object(0, 0));
        check.same("a coroutine", 2, m.object(1, 0));
        check.same("free", 0, m.object(2, 0));
        check.same("15 is free", 0, m.object(15, 0));
        m.collect(1);
        check.same("gray", 1, m.object(1, 1));
        TriColourMachine last = Told.fullChain();
        check.same("15 is there", 1, last.object(15, 0));
        check.same("its meta", 14, last.object(15, 3));
        check.same("0 has none", -1, last.object(0, 3));
    }

    private static void objectOfAFreeOne(Check check) {
        check.sentence("1 to 3 of a free one: not there.");
        TriColourMachine m = some();
        for (int n = 2; n < 16; n++) {
            for (int what = 1; what <= 3; what++) {
                int free = n;
                int w = what;
                check.refused("never made: " + n + " " + what, Check.ABSENT, m, () -> m.object(free, w));
            }
        }
        m.move(0, -1);
        m.move(1, -1);
        m.full();
        for (int n = 0; n < 2; n++) {
            check.same("gone: " + n, 0, m.object(n, 0));
            for (int what = 1; what <= 3; what++) {
                int free = n;
                int w = what;
                check.refused("gone: " + n + " " + what, Check.ABSENT, m, () -> m.object(free, w));
            }
        }
    }

    private static void insideATable(Check check) {
        check.sentence(INSIDE);
        TriColourMachine m = some();
        for (int bad : new int[] {-1, 16, 17, Told.MIN, Told.MAX}) {
            check.refused("n " + bad, Check.BAD, m, () -> m.inside(bad, 0, false));
            check.refused("value, n " + bad, Check.BAD, m, () -> m.inside(bad, 0, true));
            check.refused("far, n " + bad, Check.BAD, m, () -> m.inside(bad, 99, false));
        }
        for (int pairs = 1; pairs <= 6; pairs++) {
            Told.put(m, 0, pairs, 10 * pairs);
            check.same("the last key", pairs, m.inside(0, pairs - 1, false));
            check.same("the last value", pairs * 10, m.inside(0, pairs - 1, true));
            for (int i : new int[] {pairs, 6, 7, 16, Told.MAX}) {
                check.refused("key " + i + " of " + pairs, Check.ABSENT, m, () -> m.inside(0, i, false));
                check.refused("value " + i + " of " + pairs, Check.ABSENT, m, () -> m.inside(0, i, true));
            }
        }
        m.make(3, -1);
        check.refused("of an empty one", Check.ABSENT, m, () -> m.inside(2, 0, false));
        check.refused("of a free one", Check.ABSENT, m, () -> m.inside(3, 0, false));
        check.refused("value of a free one", Check.ABSENT, m, () -> m.inside(15, 0, true));
        m.move(0, -1);
        m.full();
        check.refused("of one that has gone", Check.ABSENT, m, () -> m.inside(0, 0, false));
        check.refused("value of one that has gone", Check.ABSENT, m, () -> m.inside(0, 0, true));
    }

    private static void insideACoroutine(Check check) {
        check.sentence(INSIDE);
        TriColourMachine m = Told.machine(op(1, 1, 0, 11), op(1, 2, 0, 12), op(1, 3, 0, 13), op(18, 0, 0, 0));
        for (int i = 0; i < 4; i++) {
            check.same("nil at first " + i, Told.NIL, m.inside(0, i, false));
        }
        m.number(1, 10);
        m.resume(0, 1, 2);
        for (int i = 0; i < 4; i++) {
            int k = i;
            check.same("register " + i, 10 + i, m.inside(0, i, false));
            check.refused("no value " + i, Check.ABSENT, m, () -> m.inside(0, k, true));
        }
        for (int i : new int[] {4, 5, 6, Told.MAX}) {
            check.refused("register " + i, Check.ABSENT, m, () -> m.inside(0, i, false));
            check.refused("value " + i, Check.ABSENT, m, () -> m.inside(0, i, true));
        }
        m.move(0, -1);
        m.full();
        check.refused("of one that has gone", Check.ABSENT, m, () -> m.inside(0, 0, false));
    }

    /** "from 0" is read as i's range, as the other numbers behind a name are: below it a number is bad. */
    private static void insideBelowZero(Check check) {
        check.sentence(INSIDE);
        TriColourMachine m = some();
        for (int i : new int[] {-1, -2, Told.MIN}) {
            for (int n : new int[] {0, 1, 2, 15}) {
                check.refused(i + " of " + n, Check.BAD, m, () -> m.inside(n, i, false));
                check.refused("value " + i + " of " + n, Check.BAD, m, () -> m.inside(n, i, true));
            }
        }
    }

    private static void count(Check check) {
        check.sentence("OBJECTS made (3) and gone (4) so far; INSTRUCTIONS begun (5); GRAY ones (6); UNITS done (7); "
            + "FULL COLLECTIONS (8); else -1.");
        TriColourMachine m = some();
        for (int other : new int[] {-1, -2, 9, 10, 99, Told.MIN, Told.MAX}) {
            check.same("count " + other, -1, m.count(other));
        }
        check.same("made", 2, m.count(3));
        m.move(0, -1);
        m.full();
        check.same("made stays", 2, m.count(3));
        check.same("gone", 1, m.count(4));
        m.make(0, -1);
        check.same("a number used again is made again", 3, m.count(3));
        check.same("full collections", 1, m.count(8));
        m.collect(1);
        check.same("gray ones", 2, m.count(6));
        m.code(0, 0, 8, 0, 3, 3);
        check.throwsA("wrong", Check.WRONG, () -> m.resume(1, 2, 3));
        check.same("a wrong one is begun", 1, m.count(5));
    }

    private static void countOfPhases(Check check) {
        check.sentence("OBJECTS there (0); 0 it RESTS, 1 MARKS, 2 SWEEPS (1); the number from which it SWEEPS, else 0 (2);");
        TriColourMachine m = new TriColourMachine();
        check.same("none there", 0, m.count(0));
        for (int unit = 0; unit <= 18; unit++) {
            check.same("after " + unit, unit == 0 || unit == 18 ? 0 : unit == 1 ? 1 : 2, m.count(1));
            check.same("from " + unit, unit < 2 || unit == 18 ? 0 : unit - 2, m.count(2));
            m.collect(1);
        }
        check.same("all there", 16, Told.fullChain().count(0));
    }

    private static void badComesFirst(Check check) {
        check.sentence("\"Bad\" is IllegalArgumentException, a number out of range; it comes first.");
        TriColourMachine full = Told.fullChain();
        check.refused("before no room", Check.BAD, full, () -> full.make(6, -1));
        check.refused("and its collection", Check.BAD, full, () -> full.make(0, 4));
        TriColourMachine deep = Told.chain(6);
        deep.number(4, 7);
        check.refused("before too deep: get", Check.BAD, deep, () -> deep.get(0, 4, 6));
        check.refused("before too deep: set", Check.BAD, deep, () -> deep.set(0, 4, 6));
        TriColourMachine m = some();
        check.refused("before wrong: set, k", Check.BAD, m, () -> m.set(3, 6, 0));
        check.refused("before wrong: set, v", Check.BAD, m, () -> m.set(3, 3, 6));
        check.refused("before wrong: get, k", Check.BAD, m, () -> m.get(3, 6, 0));
        check.refused("before wrong: get, to", Check.BAD, m, () -> m.get(3, 3, 6));
        check.refused("before wrong: meta", Check.BAD, m, () -> m.meta(3, 6));
        check.refused("before wrong: resume, v", Check.BAD, m, () -> m.resume(3, 6, 0));
        check.refused("before wrong: resume, to", Check.BAD, m, () -> m.resume(3, 3, 6));
        check.refused("before all that a resume does", Check.BAD, m, () -> m.resume(1, 3, -1));
        check.refused("before not there: object", Check.BAD, m, () -> m.object(15, 4));
        check.refused("before not there: inside", Check.BAD, m, () -> m.inside(16, 99, true));
    }

    private static void kindsOfTrouble(Check check) {
        check.sentence("WRONG is UnsupportedOperationException, TOO DEEP and NO ROOM are IllegalStateException, "
            + "what isn't there NoSuchElementException.");
        TriColourMachine m = some();
        check.throwsA("wrong", UnsupportedOperationException.class, () -> m.set(3, 2, 2));
        check.throwsA("wrong in a resume", UnsupportedOperationException.class, () -> m.resume(1, 2, 2));
        TriColourMachine deep = Told.chain(6);
        deep.number(4, 7);
        check.throwsA("too deep", IllegalStateException.class, () -> deep.get(0, 4, 3));
        TriColourMachine far = Told.machine(op(12, 0, 0, 0));
        check.throwsA("too deep in a resume", IllegalStateException.class, () -> far.resume(0, 0, 1));
        TriColourMachine full = Told.fullChain();
        check.throwsA("no room", IllegalStateException.class, () -> full.make(1, -1));
        check.throwsA("not there", java.util.NoSuchElementException.class, () -> m.object(9, 1));
        check.throwsA("not there inside", java.util.NoSuchElementException.class, () -> m.inside(9, 0, false));
        check.throwsA("bad", IllegalArgumentException.class, () -> m.global(6));
    }

    private static void throwingChangesNothing(Check check) {
        check.sentence("A call that throws changes nothing");
        // While it MARKS with all BLACK, so that any change would be seen by its colour too.
        TriColourMachine m = some();
        m.collect(3);
        check.same("black", 2, m.object(0, 1));
        check.refused("set, wrong", Check.WRONG, m, () -> m.set(0, 3, 2));
        check.refused("get, wrong", Check.WRONG, m, () -> m.get(2, 2, 4));
        check.refused("meta, wrong", Check.WRONG, m, () -> m.meta(0, 1));
        check.refused("resume, wrong", Check.WRONG, m, () -> m.resume(0, 2, 4));
        check.refused("make, bad", Check.BAD, m, () -> m.make(6, 0));
        check.refused("collect, bad", Check.BAD, m, () -> m.collect(101));
        TriColourMachine deep = Told.chain(6);
        deep.number(4, 7);
        deep.collect(12);
        check.same("marked", 2, deep.object(10, 1));
        check.refused("get, too deep", Check.NO, deep, () -> deep.get(0, 4, 3));
        check.refused("set, too deep", Check.NO, deep, () -> deep.set(0, 4, 3));
    }

    private static void whatWasDoneOnTheWay(Check check) {
        check.sentence("A call that throws changes nothing, but for what RESUMES and a FULL COLLECTION have done on the way.");
        TriColourMachine m = Told.fullChain();
        m.collect(20);
        check.throwsA("no room", Check.NO, () -> m.make(1, -1));
        check.same("the collection was done", 68, m.count(7));
        check.same("and is counted", 1, m.count(8));
        check.same("the global is as it was", Told.NIL, m.global(1));
        TriColourMachine r = Told.machine(op(1, 1, 0, 9), op(4, 1, 0, 3), op(8, 1, 2, 2));
        r.number(1, 5);
        r.number(2, 6);
        check.throwsA("wrong", Check.WRONG, () -> r.resume(0, 1, 2));
        check.same("what came in", 5, r.inside(0, 0, false));
        check.same("what was put", 9, r.global(3));
        check.same("begun", 3, r.count(5));
        check.same("dead", 3, r.object(0, 3));
        check.same("to is as it was", 6, r.global(2));
    }
}
