/** Promises 6, 7 and 8: GETTING, SETTING and METAS. */
public final class TablesTest {
    public static void main(String[] args) {
        Check check = new Check("TablesTest");
        pairs(check);
        keysOfAllKinds(check);
        seventh(check);
        gettingFurther(check);
        settingFurther(check);
        depth(check);
        nilKeys(check);
        metas(check);
        notTables(check);
        bad(check);
        check.end();
    }

    private static void pairs(Check check) {
        TriColourMachine m = new TriColourMachine();
        m.make(0, -1);
        Told.put(m, 0, 10, 1);
        Told.put(m, 0, 20, 2);
        Told.put(m, 0, 30, 3);
        Told.put(m, 0, 20, 22);
        check.same("replaced, not added", 3, m.object(0, 2));
        check.same("it keeps its place", 20, m.inside(0, 1, false));
        check.same("its new value", 22, m.inside(0, 1, true));
        m.number(4, 20);
        check.same("got", 22, m.get(0, 4, 3));
        check.same("and kept", 22, m.global(3));
        m.move(5, -1);
        m.number(4, 10);
        m.set(0, 4, 5);
        check.same("taken away", 2, m.object(0, 2));
        check.same("the next moves up", 20, m.inside(0, 0, false));
        check.same("with its value", 22, m.inside(0, 0, true));
        check.same("the last too", 30, m.inside(0, 1, false));
        check.same("gone", Told.NIL, m.get(0, 4, 3));
        m.set(0, 4, 5);
        check.same("taken away again: nothing", 2, m.object(0, 2));
        Told.put(m, 0, 10, 5);
        check.same("it comes last now", 10, m.inside(0, 2, false));
        m.number(4, 10);
        m.get(0, 4, 4);
        check.same("to may be the key's own global", 5, m.global(4));
    }

    private static void keysOfAllKinds(Check check) {
        TriColourMachine m = new TriColourMachine();
        m.make(0, -1);
        m.make(1, -1);
        m.make(2, 0);
        m.number(3, 1);
        m.set(0, 0, 1);
        m.set(0, 1, 2);
        m.set(0, 2, 0);
        m.set(0, 3, 3);
        check.same("itself as a key", Told.object(1), m.get(0, 0, 5));
        check.same("a table as a key", Told.object(2), m.get(0, 1, 5));
        check.same("a coroutine as a key", Told.object(0), m.get(0, 2, 5));
        check.same("the number 1 is not object 1", 1, m.get(0, 3, 5));
        m.number(3, Told.MIN);
        m.set(0, 3, 3);
        check.same("the least number", Told.MIN, m.get(0, 3, 5));
        check.same("pairs", 5, m.object(0, 2));
    }

    private static void seventh(Check check) {
        TriColourMachine m = new TriColourMachine();
        m.make(0, -1);
        for (int k = 1; k <= 6; k++) {
            Told.put(m, 0, k, k * k);
        }
        check.throwsA("a seventh", Check.NO, () -> Told.put(m, 0, 7, 49));
        check.same("six", 6, m.object(0, 2));
        Told.put(m, 0, 6, 66);
        check.same("replacing goes", 66, m.inside(0, 5, true));
        m.number(4, 9);
        m.move(5, -1);
        m.set(0, 4, 5);
        check.same("nil to what is not there goes", 6, m.object(0, 2));
        m.number(4, 1);
        m.set(0, 4, 5);
        Told.put(m, 0, 7, 49);
        check.same("there is room again", 7, m.inside(0, 5, false));
    }

    /** GLOBAL 0 has META 1, in which KEY 0 is GLOBAL 2. */
    private static TriColourMachine linked(int key) {
        TriColourMachine m = new TriColourMachine();
        m.make(0, -1);
        m.make(1, -1);
        m.make(2, -1);
        Told.link(m, 1, key, 2);
        m.meta(0, 1);
        return m;
    }

    private static void gettingFurther(Check check) {
        TriColourMachine m = linked(0);
        Told.put(m, 2, 7, 70);
        Told.put(m, 1, 8, 80);
        m.number(4, 7);
        check.same("from the further one", 70, m.get(0, 4, 3));
        Told.put(m, 0, 7, 71);
        m.number(4, 7);
        check.same("its own comes first", 71, m.get(0, 4, 3));
        m.number(4, 8);
        check.same("not from the meta itself", Told.NIL, m.get(0, 4, 3));
        m.number(4, 0);
        check.same("nor the link", Told.NIL, m.get(0, 4, 3));
        Told.put(m, 1, 0, 5);
        m.number(4, 9);
        check.same("a number under 0 leads nowhere", Told.NIL, m.get(0, 4, 3));
        m.make(3, 0);
        Told.link(m, 1, 0, 3);
        check.same("nor does a coroutine", Told.NIL, m.get(0, 4, 3));
        TriColourMachine other = linked(1);
        Told.put(other, 2, 7, 70);
        other.number(4, 7);
        check.same("key 1 is not for getting", Told.NIL, other.get(0, 4, 3));
        ownPairsOfMetas(check);
    }

    /** What the META of a META leads to does not count as what the META has. */
    private static void ownPairsOfMetas(Check check) {
        TriColourMachine m = new TriColourMachine();
        m.make(0, -1);
        m.make(1, -1);
        m.make(2, -1);
        m.make(3, -1);
        m.meta(0, 1);
        m.meta(1, 2);
        Told.link(m, 2, 0, 3);
        Told.link(m, 2, 1, 3);
        Told.link(m, 3, 0, 3);
        Told.link(m, 3, 1, 3);
        Told.put(m, 3, 9, 90);
        m.number(4, 9);
        check.same("getting", Told.NIL, m.get(0, 4, 5));
        check.same("the meta itself would lead on", 90, m.get(1, 4, 5));
        Told.put(m, 0, 8, 80);
        check.same("setting stays", 1, m.object(0, 2));
    }

    private static void settingFurther(Check check) {
        TriColourMachine m = linked(1);
        Told.put(m, 0, 7, 70);
        check.same("not here", 0, m.object(0, 2));
        check.same("but there", 1, m.object(2, 2));
        check.same("the key", 7, m.inside(2, 0, false));
        check.same("the value", 70, m.inside(2, 0, true));
        m.move(5, -1);
        m.number(4, 7);
        m.set(0, 4, 5);
        check.same("taken away there", 0, m.object(2, 2));
        m.meta(0, 5);
        Told.put(m, 0, 7, 1);
        m.meta(0, 1);
        Told.put(m, 0, 7, 2);
        check.same("a key that is here is set here", 2, m.inside(0, 0, true));
        check.same("and not there", 0, m.object(2, 2));
        TriColourMachine other = linked(0);
        Told.put(other, 0, 7, 70);
        check.same("key 0 is not for setting", 1, other.object(0, 2));
        other.make(3, 0);
        Told.link(other, 1, 1, 3);
        Told.put(other, 0, 8, 80);
        check.same("a coroutine under 1 leads nowhere", 2, other.object(0, 2));
        for (int k = 0; k < 6; k++) {
            Told.put(m, 2, 100 + k, 1);
        }
        check.throwsA("a seventh there", Check.NO, () -> Told.put(m, 0, 200, 1));
        check.same("is not put here", 1, m.object(0, 2));
    }

    private static void depth(Check check) {
        TriColourMachine five = Told.chain(5);
        Told.put(five, 1, 7, 70);
        five.number(4, 7);
        check.same("five tables", 70, five.get(0, 4, 3));
        five.number(4, 8);
        check.same("five without it", Told.NIL, five.get(0, 4, 3));
        Told.put(five, 0, 9, 90);
        check.same("set in the fifth", 9, five.inside(8, 1, false));
        TriColourMachine six = Told.chain(6);
        Told.put(six, 1, 7, 70);
        six.number(4, 7);
        six.number(3, 33);
        check.throwsA("six: getting", Check.NO, () -> six.get(0, 4, 3));
        check.same("to is as it was", 33, six.global(3));
        check.throwsA("six: setting", Check.NO, () -> six.set(0, 4, 3));
        check.same("the sixth is as it was", 70, six.inside(10, 0, true));
        check.throwsA("six: taking away", Check.NO, () -> {
            six.move(3, -1);
            six.set(0, 4, 3);
        });
        TriColourMachine own = new TriColourMachine();
        own.make(0, -1);
        Told.link(own, 0, 0, 0);
        Told.link(own, 0, 1, 0);
        own.meta(0, 0);
        own.number(4, 5);
        check.throwsA("its own meta: getting", Check.NO, () -> own.get(0, 4, 3));
        check.throwsA("its own meta: setting", Check.NO, () -> own.set(0, 4, 4));
        own.number(4, 1);
        check.same("what it has", Told.object(0), own.get(0, 4, 3));
    }

    private static void nilKeys(Check check) {
        TriColourMachine m = linked(0);
        Told.link(m, 1, 1, 2);
        m.move(4, -1);
        m.number(5, 3);
        check.same("getting nil", Told.NIL, m.get(0, 4, 5));
        check.same("to is nil", Told.NIL, m.global(5));
        m.number(5, 3);
        check.throwsA("setting nil", Check.WRONG, () -> m.set(0, 4, 5));
        check.throwsA("setting nil to nil", Check.WRONG, () -> m.set(0, 4, 4));
        check.same("nothing is set", 0, m.object(0, 2) + m.object(2, 2));
        TriColourMachine six = Told.chain(6);
        six.move(4, -1);
        check.same("nil at once, however deep", Told.NIL, six.get(0, 4, 3));
        check.throwsA("wrong at once", Check.WRONG, () -> six.set(0, 4, 3));
    }

    private static void metas(Check check) {
        TriColourMachine m = new TriColourMachine();
        m.make(0, -1);
        m.make(1, -1);
        m.make(2, 0);
        m.number(3, 0);
        m.meta(0, 1);
        check.same("the meta", 1, m.object(0, 3));
        m.meta(0, 0);
        check.same("itself", 0, m.object(0, 3));
        check.throwsA("a coroutine", Check.WRONG, () -> m.meta(0, 2));
        check.throwsA("a number", Check.WRONG, () -> m.meta(0, 3));
        check.throwsA("of a coroutine", Check.WRONG, () -> m.meta(2, 0));
        check.throwsA("of a number", Check.WRONG, () -> m.meta(3, 0));
        check.throwsA("of nil", Check.WRONG, () -> m.meta(4, 0));
        check.throwsA("of nil, nil", Check.WRONG, () -> m.meta(4, 4));
        check.same("as it was", 0, m.object(0, 3));
        m.meta(0, 4);
        check.same("none", -1, m.object(0, 3));
    }

    private static void notTables(Check check) {
        TriColourMachine m = new TriColourMachine();
        m.make(0, 0);
        m.number(1, 5);
        for (int g = 0; g < 3; g++) {
            int t = g;
            check.throwsA("set " + t, Check.WRONG, () -> m.set(t, 1, 1));
            check.throwsA("get " + t, Check.WRONG, () -> m.get(t, 1, 3));
            check.throwsA("get nil of " + t, Check.WRONG, () -> m.get(t, 2, 3));
        }
        check.same("to is as it was", Told.NIL, m.global(3));
    }

    private static void bad(Check check) {
        TriColourMachine m = new TriColourMachine();
        // GLOBAL 0 is no TABLE: bad must come before wrong.
        for (int g : new int[] {-1, 6, Told.MIN, Told.MAX}) {
            check.throwsA("set t " + g, Check.BAD, () -> m.set(g, 0, 0));
            check.throwsA("set k " + g, Check.BAD, () -> m.set(0, g, 0));
            check.throwsA("set v " + g, Check.BAD, () -> m.set(0, 0, g));
            check.throwsA("get t " + g, Check.BAD, () -> m.get(g, 0, 0));
            check.throwsA("get k " + g, Check.BAD, () -> m.get(0, g, 0));
            check.throwsA("get to " + g, Check.BAD, () -> m.get(0, 0, g));
            check.throwsA("meta t " + g, Check.BAD, () -> m.meta(g, 0));
            check.throwsA("meta m " + g, Check.BAD, () -> m.meta(0, g));
        }
    }
}
