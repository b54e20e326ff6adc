/** The edges in the sentences on NEW OBJECTS and THE COLLECTOR, each sentence by itself. */
public final class CollectorBoundaryTest {
    public static void main(String[] args) {
        Check check = new Check("CollectorBoundaryTest");
        leastFree(check);
        sixteenAndOneMore(check);
        noneThen(check);
        noneInACall(check);
        restsAllWhite(check);
        rootsOfACall(check);
        usedAgain(check);
        noRoots(check);
        rootsMadeGray(check);
        leastOfTheGray(check);
        refersTo(check);
        refersToItself(check);
        whiteRootsAtTheEnd(check);
        activeOnesAtTheEnd(check);
        globalsAtTheEndOfACall(check);
        sweepsEach(check);
        madeWhileMarking(check);
        madeWhileSweeping(check);
        madeAtTheLastNumber(check);
        changedTables(check);
        changedByInstructions(check);
        notChanged(check);
        resumedOnes(check);
        notWhileItSweepsOrRests(check);
        fullFromRest(check);
        fullFromMarking(check);
        fullFromSweeping(check);
        check.end();
    }

    private static int[] op(int op, int a, int b, int c) {
        return Told.op(op, a, b, c);
    }

    private static void colours(Check check, String text, TriColourMachine m, int... want) {
        for (int n = 0; n < want.length; n++) {
            check.same(text + ": colour of " + n, want[n], m.object(n, 1));
        }
    }

    private static void leastFree(Check check) {
        check.sentence("A NEW OBJECT gets the least free number; with none: a FULL COLLECTION is done first, "
            + "and if there's none then: NO ROOM.");
        TriColourMachine m = new TriColourMachine();
        for (int n = 0; n < 16; n++) {
            check.same("the next", n, m.make(n < 6 ? n : 5, n % 2 - 1));
        }
        check.same("no full collection for sixteen", 0, m.count(8));
        m.move(0, -1);
        m.move(3, -1);
        m.full();
        check.same("0 is free again", 0, m.make(0, -1));
        check.same("then 3", 3, m.make(3, -1));
        check.same("then 5", 5, m.make(3, -1));
        for (int n = 6; n < 15; n++) {
            check.same("and on", n, m.make(3, -1));
        }
        check.same("15 is there: no free one is left", 16, m.count(0));
        check.same("the one full collection that was asked for", 1, m.count(8));
    }

    private static void sixteenAndOneMore(Check check) {
        check.sentence("A NEW OBJECT gets the least free number; with none: a FULL COLLECTION is done first, "
            + "and if there's none then: NO ROOM.");
        for (int kept = 0; kept < 16; kept += 5) {
            TriColourMachine m = new TriColourMachine();
            for (int n = 0; n < 16; n++) {
                m.make(n == kept ? 1 : 0, -1);
            }
            m.move(0, 1);
            check.same("the least that went", kept == 0 ? 1 : 0, m.make(2, 3));
            check.same("a full collection", 1, m.count(8));
            check.same("all but " + kept + " went", 15, m.count(4));
            check.same("made", 17, m.count(3));
            check.same("there", 2, m.count(0));
            check.same("it rests", 0, m.count(1));
            check.same("so the new one is white", 0, m.object(kept == 0 ? 1 : 0, 1));
        }
        TriColourMachine own = new TriColourMachine();
        for (int n = 0; n < 16; n++) {
            own.make(0, -1);
        }
        check.same("its own global still holds one", 0, own.make(0, -1));
        check.same("which is there", 1, own.object(15, 0));
        check.same("fifteen went", 15, own.count(4));
    }

    private static void noneThen(Check check) {
        check.sentence("A NEW OBJECT gets the least free number; with none: a FULL COLLECTION is done first, "
            + "and if there's none then: NO ROOM.");
        for (int function = -1; function <= 0; function++) {
            int f = function;
            TriColourMachine m = Told.fullChain();
            m.number(2, 6);
            m.collect(3);
            check.throwsA("a seventeenth", Check.NO, () -> m.make(2, f));
            check.same("the collection was done", 1, m.count(8));
            // It MARKED with 3 UNITS done of a round of 1 + 16 + 1 + 16; a whole round follows.
            check.same("with all its units", 2 * 34, m.count(7));
            check.same("it rests", 0, m.count(1));
            check.same("all are there", 16, m.count(0));
            check.same("none was made", 16, m.count(3));
            check.same("none went", 0, m.count(4));
            check.same("the global", 6, m.global(2));
            m.move(0, -1);
            check.same("with the chain let go there is room", 0, m.make(2, f));
        }
    }

    private static void noneInACall(Check check) {
        check.sentence("A NEW OBJECT gets the least free number; with none: a FULL COLLECTION is done first, "
            + "and if there's none then: NO ROOM.");
        for (int op : new int[] {5, 16}) {
            TriColourMachine full = Told.machine(op(2, 1, 0, 0), op(op, 2, 0, 0), op(19, 2, 0, 0));
            full.make(1, -1);
            full.move(2, 1);
            for (int n = 2; n < 16; n++) {
                full.make(3, -1);
                full.meta(3, 2);
                full.move(2, 3);
            }
            full.number(4, 44);
            check.throwsA("no room by " + op, Check.NO, () -> full.resume(0, 2, 4));
            check.same("at it", 1, full.object(0, 2));
            check.same("a full collection", 1, full.count(8));
            check.same("to", 44, full.global(4));
            TriColourMachine room = Told.machine(op(2, 1, 0, 0), op(op, 2, 0, 0), op(19, 2, 0, 0));
            for (int n = 1; n < 16; n++) {
                room.make(1, -1);
            }
            check.same("the least by " + op, Told.object(1), room.resume(0, 1, 4));
            check.same("what its register holds stays", 1, room.object(15, 0));
            check.same("the others went", 14, room.count(4));
        }
    }

    private static void restsAllWhite(Check check) {
        check.sentence("Each OBJECT is WHITE, GRAY or BLACK; it RESTS (all are WHITE), MARKS, or SWEEPS from a number on.");
        TriColourMachine m = Told.fullChain();
        check.same("it rests at first", 0, m.count(1));
        for (int n = 0; n < 16; n++) {
            check.same("white " + n, 0, m.object(n, 1));
        }
        m.collect(34);
        check.same("it rests again", 0, m.count(1));
        for (int n = 0; n < 16; n++) {
            check.same("white again " + n, 0, m.object(n, 1));
        }
    }

    private static void rootsOfACall(Check check) {
        check.sentence("ROOTS are the GLOBALS and the REGISTERS of ACTIVE COROUTINES, and these themselves.");
        // The first takes itself out of the GLOBALS; the second fills the room, so that all is collected.
        TriColourMachine m = Told.machine(op(0, 1, 0, 0), op(4, 1, 0, 0), op(5, 0, 0, 0), op(5, 1, 0, 0),
            op(5, 2, 0, 0), op(16, 3, 0, 1), op(17, 3, 3, 0), op(19, 3, 0, 0));
        Told.program(m, 1, op(5, 3, 0, 0), op(5, 2, 0, 0), op(1, 1, 0, 12), op(1, 0, 0, 1), op(9, 1, 1, 0),
            op(5, 3, 0, 0), op(1, 0, 0, 0), op(14, 1, 0, 9), op(12, 0, 0, 3), op(19, 2, 0, 0));
        check.same("the second's table 6", Told.object(6), m.resume(0, 1, 2));
        check.same("a full collection in the call", 1, m.count(8));
        check.same("the first itself", 2, m.object(0, 0));
        check.same("its table 1", 1, m.object(1, 0));
        check.same("its table 2", 1, m.object(2, 0));
        check.same("its table 3", 1, m.object(3, 0));
        check.same("the second itself", 2, m.object(4, 0));
        m.move(2, -1);
        m.full();
        check.same("after the call they are no roots, and all go", 0, m.count(0));
    }

    private static void usedAgain(Check check) {
        check.sentence("A COROUTINE has a FUNCTION 0 .. 3, REGISTERS 0 .. 3 (NIL at first), a PLACE (0 at first), "
            + "and is FRESH, YIELDED, ACTIVE or DEAD.");
        TriColourMachine m = Told.machine(op(1, 1, 0, 1), op(1, 2, 0, 2), op(1, 3, 0, 3), op(18, 3, 0, 0));
        m.code(1, 0, 18, 1, 0, 0);
        m.number(1, 5);
        m.make(2, -1);
        m.meta(2, 2);
        Told.put(m, 2, 1, 1);
        m.resume(0, 1, 3);
        m.move(0, -1);
        m.move(2, -1);
        check.same("both go", 2, m.full());
        check.same("the coroutine's number", 0, m.make(0, 1));
        check.same("the table's number", 1, m.make(2, -1));
        check.same("fresh", 0, m.object(0, 3));
        check.same("at 0", 0, m.object(0, 2));
        for (int i = 0; i < 4; i++) {
            check.same("register " + i, Told.NIL, m.inside(0, i, false));
        }
        check.same("no pairs", 0, m.object(1, 2));
        check.same("no meta", -1, m.object(1, 3));
        check.same("of its own function", Told.NIL, m.resume(0, 1, 3));
        check.same("into 0, not where the old one yielded", 5, m.inside(0, 0, false));
        // And a number that was a TABLE's becomes a COROUTINE's.
        m.move(2, -1);
        m.full();
        check.same("the table's number", 1, m.make(2, 0));
        check.same("a coroutine", 2, m.object(1, 0));
        check.same("at 0", 0, m.object(1, 2));
        check.same("fresh", 0, m.object(1, 3));
    }

    private static void noRoots(Check check) {
        check.sentence("RESTING: all ROOTS are made GRAY, and it MARKS.");
        TriColourMachine m = new TriColourMachine();
        m.collect(1);
        check.same("without roots too", 1, m.count(1));
        check.same("no gray ones", 0, m.count(6));
        TriColourMachine let = new TriColourMachine();
        let.make(0, -1);
        let.number(0, 0);
        let.collect(1);
        check.same("an object that is no root", 0, let.object(0, 1));
        check.same("it marks", 1, let.count(1));
    }

    private static void rootsMadeGray(Check check) {
        check.sentence("RESTING: all ROOTS are made GRAY, and it MARKS.");
        TriColourMachine m = new TriColourMachine();
        for (int g = 0; g < 6; g++) {
            m.make(g, g % 2 - 1);
        }
        m.make(5, -1);
        m.collect(1);
        colours(check, "each global's", m, 1, 1, 1, 1, 1, 0, 1);
        check.same("six gray ones", 6, m.count(6));
        TriColourMachine one = new TriColourMachine();
        one.make(0, -1);
        for (int g = 1; g < 6; g++) {
            one.move(g, 0);
        }
        one.collect(1);
        check.same("one in six globals", 1, one.count(6));
    }

    private static void leastOfTheGray(Check check) {
        check.sentence("MARKING: with GRAY ones: the least of them becomes BLACK");
        TriColourMachine m = new TriColourMachine();
        for (int n = 0; n < 16; n++) {
            m.make(n == 0 ? 5 : n == 7 ? 3 : 0, -1);
        }
        m.collect(1);
        check.same("three gray ones", 3, m.count(6));
        int[] order = {0, 7, 15};
        for (int i = 0; i < 3; i++) {
            check.same("gray " + order[i], 1, m.object(order[i], 1));
            m.collect(1);
            check.same("black " + order[i], 2, m.object(order[i], 1));
            check.same("one at a time", 2 - i, m.count(6));
        }
        check.same("it marks still", 1, m.count(1));
    }

    private static void refersTo(Check check) {
        check.sentence("and all WHITE ones that it REFERS to GRAY (a TABLE to its META, its KEYS and VALUES; "
            + "a COROUTINE to its REGISTERS);");
        TriColourMachine m = new TriColourMachine();
        for (int n = 0; n < 4; n++) {
            m.make(n, -1);
        }
        m.set(0, 1, 2);
        m.meta(0, 3);
        for (int g = 1; g < 4; g++) {
            m.move(g, -1);
        }
        m.collect(2);
        colours(check, "key, value, meta", m, 2, 1, 1, 1);
        // REGISTERS 0 .. 3 of the COROUTINE are TABLES 4 .. 1.
        TriColourMachine c = Told.machine(op(5, 3, 0, 0), op(5, 2, 0, 0), op(5, 1, 0, 0), op(5, 0, 0, 0),
            op(18, 0, 0, 0));
        c.resume(0, 1, 2);
        c.move(2, -1);
        c.collect(2);
        colours(check, "registers", c, 2, 1, 1, 1, 1);
        TriColourMachine six = new TriColourMachine();
        six.make(0, -1);
        for (int n = 1; n <= 12; n += 2) {
            six.make(1, -1);
            six.make(2, -1);
            six.set(0, 1, 2);
        }
        six.move(1, -1);
        six.move(2, -1);
        six.collect(2);
        check.same("six keys and six values", 12, six.count(6));
    }

    private static void refersToItself(Check check) {
        check.sentence("and all WHITE ones that it REFERS to GRAY");
        TriColourMachine m = new TriColourMachine();
        m.make(0, -1);
        m.make(1, -1);
        m.set(0, 0, 0);
        m.meta(0, 0);
        m.set(1, 0, 0);
        m.collect(2);
        colours(check, "itself stays black", m, 2, 1);
        m.collect(1);
        colours(check, "a black one stays black", m, 2, 2);
        m.collect(1);
        check.same("so it ends", 2, m.count(1));
        TriColourMachine away = new TriColourMachine();
        away.make(0, -1);
        away.make(1, -1);
        away.number(2, 1);
        away.set(0, 2, 1);
        away.set(0, 2, 3);
        away.move(1, -1);
        away.collect(2);
        check.same("what was taken away is not referred to", 0, away.object(1, 1));
    }

    private static void whiteRootsAtTheEnd(Check check) {
        check.sentence("without: all WHITE ROOTS are made GRAY; if there were none, it SWEEPS from 0 on, "
            + "else it MARKS on.");
        TriColourMachine none = new TriColourMachine();
        none.make(0, -1);
        none.collect(3);
        check.same("none: it sweeps", 2, none.count(1));
        check.same("from 0", 0, none.count(2));
        check.same("nothing is swept yet", 2, none.object(0, 1));
        // TABLE 1 comes out of TABLE 0 before that is marked.
        TriColourMachine m = new TriColourMachine();
        m.make(0, -1);
        m.make(1, -1);
        Told.link(m, 0, 9, 1);
        m.move(1, -1);
        m.collect(1);
        m.get(0, 5, 2);
        m.set(0, 5, 3);
        m.collect(1);
        colours(check, "a white root", m, 2, 0);
        m.collect(1);
        colours(check, "is made gray", m, 2, 1);
        check.same("it marks on", 1, m.count(1));
        m.collect(1);
        check.same("and on", 1, m.count(1));
        m.collect(1);
        check.same("then it sweeps", 2, m.count(1));
    }

    /**
     * It MARKS after one UNIT: TABLE 0 (GLOBAL 0) is GRAY, OBJECT 1 (GLOBAL 1) WHITE, and there is
     * no free number, for OBJECTS 2 .. 15 have been made BLACK since (the last is GLOBAL 3).
     */
    private static TriColourMachine whiteRoot(int function) {
        TriColourMachine m = new TriColourMachine();
        m.make(0, -1);
        m.make(1, function);
        Told.link(m, 0, 9, 1);
        m.move(1, -1);
        m.collect(1);
        m.get(0, 5, 1);
        m.set(0, 5, 3);
        for (int n = 2; n < 16; n++) {
            m.make(3, 0);
        }
        return m;
    }

    private static void activeOnesAtTheEnd(Check check) {
        check.sentence("without: all WHITE ROOTS are made GRAY; if there were none, it SWEEPS from 0 on, "
            + "else it MARKS on.");
        // The COROUTINE takes itself out of GLOBAL 1, so that it is a ROOT just by being ACTIVE.
        TriColourMachine m = whiteRoot(0);
        m.move(3, -1);
        Told.program(m, 0, op(4, 1, 0, 1), op(5, 2, 0, 0), op(19, 2, 0, 0));
        check.same("it is white", 0, m.object(1, 1));
        check.same("the new table", Told.object(2), m.resume(1, 4, 4));
        check.same("it was marked before the sweep", (1 + 1 + 1 + 1 + 1 + 16) + (1 + 2 + 1 + 16), m.count(7));
        check.same("it is there", 2, m.object(1, 0));
        check.same("the others went", 14, m.count(4));
    }

    private static void globalsAtTheEndOfACall(Check check) {
        check.sentence("without: all WHITE ROOTS are made GRAY; if there were none, it SWEEPS from 0 on, "
            + "else it MARKS on.");
        // OBJECT 1 is the only WHITE ROOT, while COROUTINE 15 is an ACTIVE one that is not WHITE.
        TriColourMachine m = whiteRoot(-1);
        Told.program(m, 0, op(5, 2, 0, 0), op(19, 2, 0, 0));
        check.same("it is white", 0, m.object(1, 1));
        check.same("the new table", Told.object(2), m.resume(3, 4, 4));
        check.same("it was marked before the sweep", (1 + 2 + 1 + 1 + 1 + 16) + (1 + 3 + 1 + 16), m.count(7));
        check.same("it is there", 1, m.object(1, 0));
        check.same("the others went", 13, m.count(4));
    }

    private static void sweepsEach(Check check) {
        check.sentence("SWEEPING number i: a WHITE OBJECT goes, a BLACK one becomes WHITE; i is one more; "
            + "after 15 it RESTS.");
        TriColourMachine m = new TriColourMachine();
        for (int n = 0; n < 16; n++) {
            m.make(n == 3 ? 1 : 0, -1);
        }
        m.collect(4);
        check.same("it sweeps", 2, m.count(1));
        for (int i = 0; i < 16; i++) {
            check.same("from", i, m.count(2));
            boolean stays = i == 3 || i == 15;
            check.same("before " + i, stays ? 2 : 0, m.object(i, 1));
            check.same("goes " + i, stays ? 0 : 1, m.collect(1));
            check.same("then " + i, stays ? 1 : 0, m.object(i, 0));
        }
        check.same("after 15 it rests", 0, m.count(1));
        check.same("and sweeps from nowhere", 0, m.count(2));
        check.same("white 3", 0, m.object(3, 1));
        check.same("white 15", 0, m.object(15, 1));
        TriColourMachine free = new TriColourMachine();
        check.same("free numbers go through too", 0, free.collect(17));
        check.same("at 15", 15, free.count(2));
        check.same("it sweeps still", 2, free.count(1));
        free.collect(1);
        check.same("it rests", 0, free.count(1));
        check.same("nothing went", 0, free.count(4));
    }

    private static void madeWhileMarking(Check check) {
        check.sentence("MADE while it MARKS an OBJECT is BLACK;");
        TriColourMachine m = new TriColourMachine();
        m.collect(1);
        m.make(0, -1);
        check.same("a table", 2, m.object(0, 1));
        m.make(1, 0);
        check.same("a coroutine", 2, m.object(1, 1));
        m.code(0, 0, 5, 1, 0, 0);
        m.code(0, 1, 16, 2, 0, 0);
        m.code(0, 2, 18, 0, 0, 0);
        m.resume(1, 2, 2);
        check.same("by instruction 5", 2, m.object(2, 1));
        check.same("by instruction 16", 2, m.object(3, 1));
        m.move(0, -1);
        m.move(1, -1);
        check.same("they live through this round", 0, m.collect(18));
        check.same("which has ended", 0, m.count(1));
        check.same("but not the next", 4, m.full());
    }

    private static void madeWhileSweeping(Check check) {
        check.sentence("while it SWEEPS BLACK if its number isn't below i, else WHITE; else WHITE.");
        for (int i = 0; i < 16; i++) {
            TriColourMachine m = new TriColourMachine();
            m.collect(2 + i);
            check.same("it sweeps from", i, m.count(2));
            for (int n = 0; n < 16; n++) {
                m.make(0, n % 2 - 1);
                check.same(n + " while it sweeps from " + i, n < i ? 0 : 2, m.object(n, 1));
            }
            check.same("none of them goes", 0, m.collect(16 - i));
            check.same("it rests", 0, m.count(1));
            check.same("all are white", 0, m.object(15, 1));
        }
        TriColourMachine rests = new TriColourMachine();
        rests.make(0, -1);
        check.same("resting: white", 0, rests.object(0, 1));
    }

    private static void madeAtTheLastNumber(Check check) {
        check.sentence("while it SWEEPS BLACK if its number isn't below i, else WHITE; else WHITE.");
        // OBJECTS 14 and 15 are let go, and the other TABLES are held by a chain.
        TriColourMachine m = new TriColourMachine();
        m.make(0, -1);
        for (int n = 1; n < 14; n++) {
            m.make(1, -1);
            m.meta(1, 0);
            m.move(0, 1);
        }
        m.make(1, -1);
        m.make(1, -1);
        m.move(1, -1);
        m.collect(1 + 14 + 1 + 15);
        check.same("it sweeps from 15", 15, m.count(2));
        check.same("14 has gone", 14, m.make(2, -1));
        check.same("below 15: white", 0, m.object(14, 1));
        check.same("15 goes", 1, m.collect(1));
        check.same("it rests", 0, m.count(1));
        check.same("15 again", 15, m.make(3, -1));
        check.same("resting: white", 0, m.object(15, 1));
    }

    /** It MARKS, and TABLES 0 (GLOBAL 0, PAIR 1: 1) and 1 (GLOBAL 1) are BLACK. */
    private static TriColourMachine black() {
        TriColourMachine m = new TriColourMachine();
        m.make(0, -1);
        m.make(1, -1);
        Told.put(m, 0, 1, 1);
        m.collect(3);
        m.move(5, -1);
        return m;
    }

    private static void changedTables(Check check) {
        check.sentence("While it MARKS, a BLACK TABLE that is changed (a PAIR put, replaced, by the same too, "
            + "or taken away, or its META set)");
        TriColourMachine m = black();
        colours(check, "black", m, 2, 2);
        Told.put(m, 0, 2, 2);
        colours(check, "put", m, 1, 2);
        m.collect(1);
        colours(check, "black again", m, 2, 2);
        Told.put(m, 0, 2, 3);
        colours(check, "replaced", m, 1, 2);
        m.collect(1);
        Told.put(m, 0, 2, 3);
        colours(check, "by the same", m, 1, 2);
        m.collect(1);
        m.move(5, -1);
        m.set(0, 4, 5);
        colours(check, "taken away", m, 1, 2);
        m.collect(1);
        m.meta(0, 5);
        colours(check, "no meta, as before", m, 1, 2);
        m.collect(1);
        m.meta(0, 1);
        colours(check, "a meta", m, 1, 2);
        m.collect(1);
        m.meta(0, 1);
        colours(check, "the same meta", m, 1, 2);
        m.collect(1);
        m.meta(0, 5);
        colours(check, "no meta", m, 1, 2);
        check.same("it marks all the while", 1, m.count(1));
    }

    private static void changedByInstructions(Check check) {
        check.sentence("While it MARKS, a BLACK TABLE that is changed (a PAIR put, replaced, by the same too, "
            + "or taken away, or its META set)");
        int[][] rows = {op(7, 0, 1, 1), op(7, 0, 2, 2), op(7, 0, 2, 3), op(15, 0, 0, 0), op(15, 0, 3, 0)};
        for (int[] row : rows) {
            TriColourMachine m = black();
            Told.program(m, 0, op(1, 1, 0, 5), op(1, 2, 0, 1), row, op(18, 1, 0, 0));
            m.make(2, 0);
            m.resume(2, 0, 3);
            colours(check, "by " + row[0] + " with " + row[2] + " " + row[3], m, 1, 2, 1);
        }
        // TABLE 0 leads to TABLE 1: that is the one that is changed.
        TriColourMachine far = new TriColourMachine();
        far.make(0, -1);
        far.make(1, -1);
        far.make(2, -1);
        far.meta(0, 2);
        Told.link(far, 2, 1, 1);
        far.collect(4);
        colours(check, "black", far, 2, 2, 2);
        Told.put(far, 0, 7, 7);
        colours(check, "only where the pair is put", far, 2, 1, 2);
    }

    private static void notChanged(Check check) {
        check.sentence("While it MARKS, a BLACK TABLE that is changed");
        TriColourMachine m = black();
        m.number(4, 9);
        m.set(0, 4, 5);
        colours(check, "nothing to take away", m, 2, 2);
        m.get(0, 4, 3);
        colours(check, "looked at", m, 2, 2);
        check.refused("a nil key", Check.WRONG, m, () -> m.set(0, 5, 4));
        check.refused("a wrong meta", Check.WRONG, m, () -> m.meta(0, 4));
        for (int k = 2; k <= 6; k++) {
            Told.put(m, 0, k, k);
        }
        m.collect(1);
        m.number(4, 7);
        check.refused("a seventh", Check.NO, m, () -> m.set(0, 4, 4));
        m.move(2, 0);
        m.move(0, -1);
        colours(check, "moved", m, 2, 2);
        TriColourMachine gray = new TriColourMachine();
        gray.make(0, -1);
        gray.collect(1);
        Told.put(gray, 0, 1, 1);
        colours(check, "gray stays gray", gray, 1);
        TriColourMachine out = new TriColourMachine();
        out.make(0, -1);
        out.make(1, -1);
        Told.link(out, 0, 9, 1);
        out.move(1, -1);
        out.collect(1);
        out.get(0, 5, 1);
        Told.put(out, 1, 3, 3);
        out.meta(1, 1);
        colours(check, "white stays white", out, 1, 0);
    }

    private static void resumedOnes(Check check) {
        check.sentence("and a BLACK COROUTINE that is RESUMED, become GRAY.");
        TriColourMachine m = Told.machine(op(18, 0, 0, 0), op(19, 0, 0, 0));
        m.make(1, 0);
        m.collect(3);
        colours(check, "black", m, 2, 2);
        m.resume(0, 2, 2);
        colours(check, "fresh", m, 1, 2);
        m.collect(1);
        m.resume(0, 2, 2);
        colours(check, "yielded", m, 1, 2);
        m.collect(1);
        check.refused("dead: not resumed", Check.WRONG, m, () -> m.resume(0, 2, 2));
        colours(check, "so it stays black", m, 2, 2);
        TriColourMachine both = Told.machine(op(3, 1, 0, 1), op(17, 2, 1, 0), op(18, 0, 0, 0));
        both.code(1, 0, 18, 0, 0, 0);
        both.make(1, 1);
        both.make(2, 1);
        both.collect(4);
        both.resume(0, 3, 3);
        colours(check, "by instruction 17 too", both, 1, 1, 2);
        TriColourMachine trouble = Told.machine(op(3, 1, 0, 1), op(17, 2, 1, 0));
        trouble.make(1, 1);
        trouble.make(2, 1);
        trouble.collect(4);
        check.throwsA("with trouble", Check.WRONG, () -> trouble.resume(0, 3, 3));
        colours(check, "they were resumed", trouble, 1, 1, 2);
        TriColourMachine sixth = Told.machine(op(1, 1, 0, 0), op(14, 0, 1, 7), op(1, 1, 0, 1), op(9, 0, 0, 1),
            op(16, 2, 0, 0), op(17, 3, 2, 0), op(19, 3, 0, 0), op(3, 2, 0, 5), op(17, 3, 2, 1));
        sixth.make(5, 1);
        sixth.number(1, 4);
        sixth.collect(3);
        check.throwsA("a sixth", Check.NO, () -> sixth.resume(0, 1, 2));
        colours(check, "was not resumed", sixth, 1, 2, 1, 1, 1, 1);
    }

    private static void notWhileItSweepsOrRests(Check check) {
        check.sentence("While it MARKS, a BLACK TABLE that is changed (a PAIR put, replaced, by the same too, "
            + "or taken away, or its META set), and a BLACK COROUTINE that is RESUMED, become GRAY.");
        TriColourMachine m = Told.machine(op(18, 0, 0, 0), op(12, 0, 0, 0));
        m.make(1, -1);
        m.collect(4);
        check.same("it sweeps", 2, m.count(1));
        Told.put(m, 1, 1, 1);
        m.meta(1, 1);
        m.resume(0, 2, 2);
        colours(check, "sweeping: black stays", m, 2, 2);
        m.collect(1);
        colours(check, "swept, not swept", m, 0, 2);
        Told.put(m, 1, 1, 1);
        m.resume(0, 2, 2);
        colours(check, "white stays", m, 0, 2);
        m.collect(15);
        check.same("it rests", 0, m.count(1));
        Told.put(m, 1, 1, 2);
        m.resume(0, 2, 2);
        colours(check, "resting: white stays", m, 0, 0);
        check.same("no gray ones", 0, m.count(6));
    }

    private static void fullFromRest(Check check) {
        check.sentence("A FULL COLLECTION: UNITS until it RESTS (none if it does), "
            + "and then one and further ones until it RESTS again.");
        TriColourMachine empty = new TriColourMachine();
        check.same("of nothing", 0, empty.full());
        check.same("one round", 18, empty.count(7));
        check.same("it rests", 0, empty.count(1));
        check.same("counted", 1, empty.count(8));
        TriColourMachine full = Told.fullChain();
        check.same("of sixteen that stay", 0, full.full());
        check.same("one round of them", 1 + 16 + 1 + 16, full.count(7));
        full.move(0, -1);
        check.same("of sixteen that go", 16, full.full());
        check.same("another round", 34 + 18, full.count(7));
        check.same("none is there", 0, full.count(0));
    }

    private static void fullFromMarking(Check check) {
        check.sentence("A FULL COLLECTION: UNITS until it RESTS (none if it does), "
            + "and then one and further ones until it RESTS again.");
        TriColourMachine m = new TriColourMachine();
        m.make(0, -1);
        m.make(1, -1);
        m.collect(3);
        m.move(1, -1);
        // The round that is under way keeps TABLE 1, which is BLACK; the whole one that follows doesn't.
        check.same("what was black goes too", 1, m.full());
        check.same("units", (1 + 2 + 1 + 16) + (1 + 1 + 1 + 16), m.count(7));
        check.same("one full collection", 1, m.count(8));
        check.same("it rests", 0, m.count(1));
        TriColourMachine first = new TriColourMachine();
        first.collect(1);
        first.full();
        check.same("after its first unit", 18 + 18, first.count(7));
    }

    private static void fullFromSweeping(Check check) {
        check.sentence("A FULL COLLECTION: UNITS until it RESTS (none if it does), "
            + "and then one and further ones until it RESTS again.");
        for (int i = 0; i < 16; i++) {
            TriColourMachine m = new TriColourMachine();
            m.collect(2 + i);
            m.make(0, -1);
            m.move(0, -1);
            check.same("made while it sweeps from " + i, 1, m.full());
            check.same("both rounds", 36, m.count(7));
            check.same("it rests", 0, m.count(1));
        }
    }
}
