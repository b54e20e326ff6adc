/** The edges in the sentences on VALUES, TABLES, GETTING and SETTING, each sentence by itself. */
public final class TableBoundaryTest {
    /** NUMBERS that would be NIL or OBJECT 0 if only 32 bits of what is told were looked at. */
    private static final int LIKE_NIL = (int) Told.NIL;
    private static final int LIKE_OBJECT = (int) Told.object(0);

    public static void main(String[] args) {
        Check check = new Check("TableBoundaryTest");
        numbersAreInts(check);
        told(check);
        sixteenObjects(check);
        sixGlobals(check);
        whatItHas(check);
        alike(check);
        atMostSix(check);
        metaAtFirst(check);
        gettingLeadsNowhere(check);
        settingLeadsNowhere(check);
        nilTakesAway(check);
        ownPairsOfMetas(check);
        gettingFromSix(check);
        settingInSix(check);
        theFifthOfSix(check);
        aRingOfOne(check);
        deepInAResume(check);
        seventh(check);
        seventhFurtherOn(check);
        nilAsKeyOfGetting(check);
        nilAsKeyOfSetting(check);
        check.end();
    }

    private static void numbersAreInts(Check check) {
        check.sentence("VALUES: NIL, a NUMBER (an int), or an OBJECT.");
        TriColourMachine m = new TriColourMachine();
        // The least and the most are NUMBERS like others: KEYS, VALUES, and fit to calculate with.
        Told.program(m, 0, Told.op(18, 1, 0, 0), Told.op(8, 2, 0, 1), Told.op(19, 2, 0, 0));
        m.number(1, Told.MIN);
        m.number(2, Told.MAX);
        m.make(0, 0);
        m.resume(0, 1, 5);
        check.same("the least and the most", -1, m.resume(0, 2, 5));
        m.make(0, -1);
        m.set(0, 1, 2);
        m.set(0, 2, 1);
        check.same("the least as a key", Told.MAX, m.get(0, 1, 5));
        check.same("the most as a key", Told.MIN, m.get(0, 2, 5));
        check.throwsA("a number is no table", Check.WRONG, () -> m.set(2, 1, 1));
        check.throwsA("a number is no coroutine", Check.WRONG, () -> m.resume(2, 1, 1));
    }

    private static void told(Check check) {
        check.sentence("They are told as a long: a NUMBER as itself, NIL as -1000000000000, "
            + "an OBJECT as 10000000000 plus its number.");
        TriColourMachine m = new TriColourMachine();
        check.same("nil", -1000000000000L, m.global(0));
        for (int v : new int[] {Told.MIN, Told.MIN + 1, -1, 0, 1, Told.MAX - 1, Told.MAX, LIKE_NIL, LIKE_OBJECT}) {
            m.number(0, v);
            check.same("number " + v, v, m.global(0));
        }
        for (int n = 0; n < 16; n++) {
            m.make(0, n % 2 - 1);
            check.same("object " + n, 10000000000L + n, m.global(0));
        }
    }

    private static void sixteenObjects(Check check) {
        check.sentence("OBJECTS 0 .. 15 are free or there: a TABLE, or a COROUTINE.");
        TriColourMachine m = new TriColourMachine();
        for (int there = 0; there <= 16; there++) {
            for (int n = 0; n < 16; n++) {
                check.same(n + " of " + there, n < there ? n % 2 + 1 : 0, m.object(n, 0));
            }
            if (there < 16) {
                m.make(0, there % 2 - 1);
            }
        }
        check.same("sixteen", 16, m.count(0));
        check.refused("no 16", Check.BAD, m, () -> m.object(16, 0));
        check.refused("no -1", Check.BAD, m, () -> m.object(-1, 0));
    }

    private static void sixGlobals(Check check) {
        check.sentence("GLOBALS 0 .. 5 are VALUES, NIL at first.");
        TriColourMachine m = new TriColourMachine();
        for (int g = 0; g < 6; g++) {
            check.same("nil " + g, Told.NIL, m.global(g));
        }
        for (int g = 0; g < 6; g++) {
            m.make(g, -1);
        }
        for (int g = 0; g < 6; g++) {
            check.same("each its own " + g, Told.object(g), m.global(g));
        }
        check.refused("no 6", Check.BAD, m, () -> m.global(6));
        check.refused("no -1", Check.BAD, m, () -> m.global(-1));
    }

    private static void whatItHas(Check check) {
        check.sentence("GETTING a KEY of a TABLE: if it has it, the VALUE;");
        // A ring of one: what it has itself is never looked for further on.
        TriColourMachine m = new TriColourMachine();
        m.make(0, -1);
        Told.link(m, 0, 0, 0);
        m.meta(0, 0);
        for (int k = 1; k < 6; k++) {
            Told.put(m, 0, k, 10 * k);
        }
        for (int k = 0; k < 6; k++) {
            m.number(4, k);
            check.same("key " + k + " of six", k == 0 ? Told.object(0) : 10 * k, m.get(0, 4, 5));
        }
    }

    /** Whether INSTRUCTION 14 takes GLOBALS 1 and 2 as ALIKE. */
    private static long areAlike(TriColourMachine m) {
        Told.program(m, 0, Told.op(18, 1, 0, 0), Told.op(14, 0, 1, 4), Told.op(1, 3, 0, 0),
            Told.op(19, 3, 0, 0), Told.op(1, 3, 0, 1), Told.op(19, 3, 0, 0));
        m.make(0, 0);
        m.resume(0, 1, 5);
        return m.resume(0, 2, 5);
    }

    private static void alike(Check check) {
        check.sentence("ALIKE: both NIL, equal NUMBERS, the same OBJECT.");
        TriColourMachine m = new TriColourMachine();
        check.same("nil and nil", 1, areAlike(m));
        for (int v : new int[] {0, -1, LIKE_NIL, Told.MIN}) {
            m.number(1, v);
            check.same(v + " and nil", 0, areAlike(m));
            m.number(2, v);
            check.same(v + " and itself", 1, areAlike(m));
            m.number(2, v + 1);
            check.same(v + " and one more", 0, areAlike(m));
            m.move(2, -1);
        }
        TriColourMachine o = new TriColourMachine();
        o.make(1, -1);
        o.make(2, -1);
        check.same("two empty tables", 0, areAlike(o));
        o.move(2, 1);
        check.same("the same table", 1, areAlike(o));
        o.number(2, 0);
        check.same("object 0 and the number 0", 0, areAlike(o));
        o.number(2, LIKE_OBJECT);
        check.same("object 0 and a number", 0, areAlike(o));
        o.set(1, 1, 1);
        check.same("object 0 as a key is not that number", Told.NIL, o.get(1, 2, 3));
        o.set(1, 2, 2);
        check.same("so both can be keys", 2, o.object(0, 2));
    }

    private static void atMostSix(Check check) {
        check.sentence("A TABLE has PAIRS, a KEY (not NIL) and a VALUE (not NIL), in the order in which their "
            + "KEYS came, at most 6");
        TriColourMachine m = new TriColourMachine();
        m.make(0, -1);
        check.same("none at first", 0, m.object(0, 2));
        int[] keys = {5, Told.MIN, 0, Told.MAX, -1, 3};
        for (int i = 0; i < 6; i++) {
            Told.put(m, 0, keys[i], 10 + i);
            check.same("pairs", i + 1, m.object(0, 2));
        }
        for (int i = 0; i < 6; i++) {
            check.same("key " + i, keys[i], m.inside(0, i, false));
            check.same("value " + i, 10 + i, m.inside(0, i, true));
        }
        m.number(4, 9);
        m.number(5, 9);
        check.refused("one more", Check.NO, m, () -> m.set(0, 4, 5));
    }

    private static void metaAtFirst(Check check) {
        check.sentence("and a META, a TABLE or none (at first).");
        TriColourMachine m = new TriColourMachine();
        m.make(0, -1);
        check.same("none", -1, m.object(0, 3));
        m.meta(0, 0);
        check.same("itself, number 0", 0, m.object(0, 3));
        m.meta(0, 5);
        check.same("none again", -1, m.object(0, 3));
        for (int n = 1; n < 16; n++) {
            m.make(1, -1);
        }
        m.meta(0, 1);
        check.same("number 15", 15, m.object(0, 3));
    }

    /** GLOBALS 0, 1 and 2 are TABLES, 0 has the META 1, and 2 has the PAIR 7: 70. */
    private static TriColourMachine three() {
        TriColourMachine m = new TriColourMachine();
        m.make(0, -1);
        m.make(1, -1);
        m.make(2, -1);
        m.meta(0, 1);
        Told.put(m, 2, 7, 70);
        m.number(4, 7);
        return m;
    }

    private static void gettingLeadsNowhere(Check check) {
        check.sentence("else with a META that has the KEY NUMBER 0 with a VALUE that is a TABLE: "
            + "GETTING it from that one; else NIL.");
        TriColourMachine m = three();
        check.same("an empty meta", Told.NIL, m.get(0, 4, 3));
        check.same("no meta", Told.NIL, m.get(1, 4, 3));
        Told.link(m, 1, 1, 2);
        check.same("only key 1", Told.NIL, m.get(0, 4, 3));
        Told.put(m, 1, 0, 0);
        m.number(4, 7);
        check.same("a number under 0", Told.NIL, m.get(0, 4, 3));
        m.make(3, 0);
        Told.link(m, 1, 0, 3);
        check.same("a coroutine under 0", Told.NIL, m.get(0, 4, 3));
        Told.link(m, 1, 0, 2);
        check.same("a table under 0", 70, m.get(0, 4, 3));
        m.move(4, 0);
        check.same("a key that neither has", Told.NIL, m.get(0, 4, 3));
    }

    private static void settingLeadsNowhere(Check check) {
        check.sentence("if the TABLE hasn't the KEY, and its META has the KEY NUMBER 1 with a VALUE that is a "
            + "TABLE: SETTING it there;");
        TriColourMachine m = three();
        Told.put(m, 0, 10, 1);
        check.same("an empty meta", 1, m.object(0, 2));
        Told.link(m, 1, 0, 2);
        Told.put(m, 0, 11, 1);
        check.same("only key 0", 2, m.object(0, 2));
        Told.put(m, 1, 1, 1);
        Told.put(m, 0, 12, 1);
        check.same("a number under 1", 3, m.object(0, 2));
        m.make(3, 0);
        Told.link(m, 1, 1, 3);
        Told.put(m, 0, 13, 1);
        check.same("a coroutine under 1", 4, m.object(0, 2));
        check.same("nothing there", 1, m.object(2, 2));
        Told.link(m, 1, 1, 2);
        Told.put(m, 0, 14, 1);
        check.same("a table under 1", 2, m.object(2, 2));
        check.same("not here", 4, m.object(0, 2));
        Told.put(m, 0, 13, 2);
        check.same("but what it has is set here", 2, m.inside(0, 3, true));
        check.same("and not there", 2, m.object(2, 2));
    }

    private static void nilTakesAway(Check check) {
        check.sentence("NIL takes the PAIR away (if there is one), other VALUES replace the KEY's, "
            + "or a new PAIR comes last.");
        for (int away = 0; away < 6; away++) {
            TriColourMachine m = new TriColourMachine();
            m.make(0, -1);
            for (int k = 0; k < 6; k++) {
                Told.put(m, 0, k, 10 * k);
            }
            m.number(4, away);
            m.set(0, 4, 3);
            check.same("five", 5, m.object(0, 2));
            check.throwsA("no sixth", Check.ABSENT, () -> m.inside(0, 5, false));
            Told.put(m, 0, away, 99);
            for (int i = 0; i < 5; i++) {
                int key = i < away ? i : i + 1;
                check.same("key " + i, key, m.inside(0, i, false));
                check.same("value " + i, 10 * key, m.inside(0, i, true));
            }
            check.same("the new one is last", away, m.inside(0, 5, false));
            check.same("with its value", 99, m.inside(0, 5, true));
            Told.put(m, 0, away, 98);
            check.same("replaced where it is", 98, m.inside(0, 5, true));
        }
        TriColourMachine m = new TriColourMachine();
        m.make(0, -1);
        m.number(4, 1);
        m.set(0, 4, 3);
        check.same("from an empty one: nothing", 0, m.object(0, 2));
        Told.put(m, 0, 1, 0);
        check.same("the number 0 is no nil", 1, m.object(0, 2));
        m.number(4, 2);
        m.set(0, 4, 3);
        check.same("not the key: nothing", 1, m.object(0, 2));
        m.number(4, 1);
        m.set(0, 4, 3);
        check.same("the only one", 0, m.object(0, 2));
    }

    private static void ownPairsOfMetas(Check check) {
        check.sentence("(For what a META has, just its own PAIRS count.)");
        TriColourMachine m = new TriColourMachine();
        for (int g = 0; g < 4; g++) {
            m.make(g, -1);
        }
        m.meta(0, 1);
        m.meta(1, 2);
        // GETTING 0 or 1 of TABLE 1 would give TABLE 3, but TABLE 1 has neither.
        Told.link(m, 2, 0, 3);
        Told.link(m, 3, 0, 3);
        Told.link(m, 3, 1, 3);
        m.number(4, 1);
        check.same("the meta would give it", Told.object(3), m.get(1, 4, 5));
        check.same("getting", Told.NIL, m.get(0, 4, 5));
        Told.put(m, 0, 8, 80);
        check.same("setting", 1, m.object(0, 2));
        check.same("not further", 2, m.object(3, 2));
    }

    private static void gettingFromSix(Check check) {
        check.sentence("Above 5 TABLES, one after another, in one GETTING or SETTING: TOO DEEP.");
        TriColourMachine five = Told.chain(5);
        five.number(4, 8);
        check.same("five, none has it", Told.NIL, five.get(0, 4, 3));
        Told.put(five, 1, 7, 70);
        five.number(4, 7);
        check.same("the fifth has it", 70, five.get(0, 4, 3));
        TriColourMachine six = Told.chain(6);
        six.number(4, 7);
        check.refused("six, none has it", Check.NO, six, () -> six.get(0, 4, 3));
        Told.put(six, 1, 7, 70);
        six.number(4, 7);
        check.refused("the sixth has it", Check.NO, six, () -> six.get(0, 4, 3));
    }

    /** A chain of six of which the fifth, TABLE 8, has the PAIR 7: 70. */
    private static TriColourMachine sixWithAFifth() {
        TriColourMachine m = Told.chain(5);
        Told.put(m, 1, 7, 70);
        m.make(2, -1);
        m.make(3, -1);
        m.meta(1, 2);
        Told.link(m, 2, 0, 3);
        Told.link(m, 2, 1, 3);
        m.number(4, 7);
        return m;
    }

    private static void theFifthOfSix(Check check) {
        check.sentence("Above 5 TABLES, one after another, in one GETTING or SETTING: TOO DEEP.");
        TriColourMachine m = sixWithAFifth();
        check.same("the fifth has it: no sixth is asked", 70, m.get(0, 4, 3));
        m.set(0, 4, 4);
        check.same("and it is set there", 7, m.inside(8, 0, true));
        m.move(3, -1);
        m.set(0, 4, 3);
        check.same("and taken away there", 0, m.object(8, 2));
        check.refused("then none has it", Check.NO, m, () -> m.get(0, 4, 3));
    }

    private static void settingInSix(Check check) {
        check.sentence("Above 5 TABLES, one after another, in one GETTING or SETTING: TOO DEEP.");
        TriColourMachine five = Told.chain(5);
        Told.put(five, 0, 7, 70);
        check.same("the fifth of five gets it", 7, five.inside(8, 0, false));
        five.number(4, 7);
        five.set(0, 4, 4);
        check.same("and again", 7, five.inside(8, 0, true));
        TriColourMachine six = Told.chain(6);
        six.number(4, 7);
        check.refused("six, none has it", Check.NO, six, () -> six.set(0, 4, 4));
        six.move(3, -1);
        check.refused("to nil, none has it", Check.NO, six, () -> six.set(0, 4, 3));
        six.set(1, 4, 4);
        check.refused("the sixth has it", Check.NO, six, () -> six.set(0, 4, 4));
        check.refused("to nil, the sixth has it", Check.NO, six, () -> six.set(0, 4, 3));
    }

    private static void aRingOfOne(Check check) {
        check.sentence("Above 5 TABLES, one after another, in one GETTING or SETTING: TOO DEEP.");
        TriColourMachine m = new TriColourMachine();
        m.make(0, -1);
        Told.link(m, 0, 0, 0);
        Told.link(m, 0, 1, 0);
        m.meta(0, 0);
        m.number(4, 5);
        check.refused("getting", Check.NO, m, () -> m.get(0, 4, 3));
        check.refused("setting", Check.NO, m, () -> m.set(0, 4, 4));
        check.refused("to nil", Check.NO, m, () -> m.set(0, 4, 3));
        m.number(4, 0);
        check.same("what it has", Told.object(0), m.get(0, 4, 3));
        m.set(0, 4, 4);
        check.same("is set", 0, m.inside(0, 0, true));
    }

    /** GLOBAL 0's chain is asked by a COROUTINE with the KEY 7. */
    private static TriColourMachine asking(int tables, int op) {
        TriColourMachine m = Told.chain(tables);
        Told.program(m, 0, Told.op(1, 1, 0, 7), op == 6 ? Told.op(6, 2, 0, 1) : Told.op(7, 0, 1, 1),
            Told.op(19, 2, 0, 0));
        m.make(2, 0);
        return m;
    }

    private static void deepInAResume(Check check) {
        check.sentence("Above 5 TABLES, one after another, in one GETTING or SETTING: TOO DEEP.");
        for (int op = 6; op <= 7; op++) {
            TriColourMachine five = asking(5, op);
            check.same("instruction " + op + ", five", Told.NIL, five.resume(2, 0, 3));
            TriColourMachine six = asking(6, op);
            check.throwsA("instruction " + op + ", six", Check.NO, () -> six.resume(2, 0, 3));
            check.same("nothing in the sixth", 0, six.object(10, 2));
            check.same("at that instruction", 1, six.object(11, 2));
        }
    }

    /** GLOBAL 0 is a TABLE with the KEYS 1 to 6. */
    private static TriColourMachine six() {
        TriColourMachine m = new TriColourMachine();
        m.make(0, -1);
        for (int k = 1; k <= 6; k++) {
            Told.put(m, 0, k, k);
        }
        return m;
    }

    private static void seventh(Check check) {
        check.sentence("A seventh PAIR: NO ROOM.");
        TriColourMachine m = six();
        m.number(4, 7);
        check.refused("a seventh", Check.NO, m, () -> m.set(0, 4, 4));
        m.set(0, 4, 3);
        check.same("nil is no pair", 6, m.object(0, 2));
        for (int k = 1; k <= 6; k++) {
            Told.put(m, 0, k, -k);
            check.same("replacing " + k, -k, m.inside(0, k - 1, true));
        }
        m.number(4, 6);
        m.set(0, 4, 3);
        Told.put(m, 0, 7, 77);
        check.same("a sixth again", 7, m.inside(0, 5, false));
        m.number(4, 6);
        check.refused("a seventh again", Check.NO, m, () -> m.set(0, 4, 4));
        Told.program(m, 0, Told.op(1, 1, 0, 8), Told.op(7, 0, 1, 1), Told.op(19, 2, 0, 0));
        m.make(1, 0);
        check.throwsA("by an instruction", Check.NO, () -> m.resume(1, 0, 2));
        check.same("its place", 1, m.object(1, 2));
        check.same("six still", 6, m.object(0, 2));
    }

    private static void seventhFurtherOn(Check check) {
        check.sentence("A seventh PAIR: NO ROOM.");
        TriColourMachine m = six();
        m.make(1, -1);
        m.make(2, -1);
        m.meta(1, 2);
        Told.link(m, 2, 1, 0);
        m.number(4, 7);
        check.refused("in the one it leads to", Check.NO, m, () -> m.set(1, 4, 4));
        m.number(4, 6);
        m.set(1, 4, 4);
        check.same("what that one has is replaced there", 6, m.object(0, 2));
        check.same("not put here", 0, m.object(1, 2));
        // A full one that leads on puts nothing itself.
        m.meta(0, 2);
        Told.link(m, 2, 1, 1);
        m.move(5, -1);
        m.meta(1, 5);
        m.number(4, 7);
        m.set(0, 4, 4);
        check.same("from a full one", 1, m.object(1, 2));
    }

    private static void nilAsKeyOfGetting(Check check) {
        check.sentence("A KEY that is NIL: GETTING gives NIL (from the TABLE at once), SETTING is WRONG.");
        TriColourMachine m = new TriColourMachine();
        m.make(0, -1);
        m.number(3, 3);
        check.same("of an empty table", Told.NIL, m.get(0, 4, 3));
        check.same("to", Told.NIL, m.global(3));
        check.same("of a full one", Told.NIL, six().get(0, 3, 2));
        TriColourMachine deep = Told.chain(6);
        deep.move(4, -1);
        deep.number(3, 3);
        check.same("at once: not too deep", Told.NIL, deep.get(0, 4, 3));
        check.same("to of that", Told.NIL, deep.global(3));
        check.refused("of none: still wrong", Check.WRONG, deep, () -> deep.get(4, 4, 3));
        TriColourMachine byCode = Told.chain(6);
        Told.program(byCode, 0, Told.op(1, 2, 0, 5), Told.op(6, 2, 0, 1), Told.op(19, 2, 0, 0));
        byCode.make(2, 0);
        check.same("by an instruction", Told.NIL, byCode.resume(2, 0, 3));
    }

    private static void nilAsKeyOfSetting(Check check) {
        check.sentence("A KEY that is NIL: GETTING gives NIL (from the TABLE at once), SETTING is WRONG.");
        TriColourMachine m = new TriColourMachine();
        m.make(0, -1);
        m.number(3, 3);
        check.refused("in an empty table", Check.WRONG, m, () -> m.set(0, 4, 3));
        check.refused("to nil", Check.WRONG, m, () -> m.set(0, 4, 4));
        TriColourMachine full = six();
        full.move(4, -1);
        full.number(3, 3);
        check.refused("in a full one: wrong, not no room", Check.WRONG, full, () -> full.set(0, 4, 3));
        TriColourMachine deep = Told.chain(6);
        deep.move(4, -1);
        deep.number(3, 3);
        check.refused("wrong, not too deep", Check.WRONG, deep, () -> deep.set(0, 4, 3));
        TriColourMachine two = Told.chain(2);
        two.move(4, -1);
        two.number(3, 3);
        check.refused("nor is it set further on", Check.WRONG, two, () -> two.set(0, 4, 3));
    }
}
