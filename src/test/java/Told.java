/** How the tests write what the document tells, and a short way to give a FUNCTION its code. */
final class Told {
    static final long NIL = -1000000000000L;
    static final int MIN = Integer.MIN_VALUE;
    static final int MAX = Integer.MAX_VALUE;

    private Told() {
    }

    static long object(int n) {
        return 10000000000L + n;
    }

    /** Rows of op, a, b, c from INSTRUCTION 0 on. */
    static void program(TriColourMachine m, int f, int[]... rows) {
        for (int i = 0; i < rows.length; i++) {
            m.code(f, i, rows[i][0], rows[i][1], rows[i][2], rows[i][3]);
        }
    }

    static int[] op(int op, int a, int b, int c) {
        return new int[] {op, a, b, c};
    }

    /** A new machine whose GLOBAL 0 is a COROUTINE (OBJECT 0) of FUNCTION 0 with these rows. */
    static TriColourMachine machine(int[]... rows) {
        TriColourMachine m = new TriColourMachine();
        program(m, 0, rows);
        m.make(0, 0);
        return m;
    }

    /** GLOBAL t's KEY, a NUMBER, is set to a NUMBER; GLOBALS 4 and 5 are used up. */
    static void put(TriColourMachine m, int t, int key, int value) {
        m.number(4, key);
        m.number(5, value);
        m.set(t, 4, 5);
    }

    /** GLOBAL t's KEY, a NUMBER, is set to GLOBAL v; GLOBAL 5 is used up. */
    static void link(TriColourMachine m, int t, int key, int v) {
        m.number(5, key);
        m.set(t, 5, v);
    }

    /**
     * TABLES 0, 2, 4, .. in a chain by the METAS 1, 3, .., each link both for GETTING and SETTING.
     * GLOBAL 0 is the first of them, GLOBAL 1 the last.
     */
    static TriColourMachine chain(int tables) {
        TriColourMachine m = new TriColourMachine();
        m.make(0, -1);
        m.move(1, 0);
        for (int i = 1; i < tables; i++) {
            m.make(2, -1);
            m.make(3, -1);
            m.meta(1, 2);
            link(m, 2, 0, 3);
            link(m, 2, 1, 3);
            m.move(1, 3);
        }
        return m;
    }

    /** A machine with all 16 OBJECTS there, TABLES, each the META of the next, and GLOBAL 0 the last. */
    static TriColourMachine fullChain() {
        TriColourMachine m = new TriColourMachine();
        m.make(0, -1);
        for (int n = 1; n < 16; n++) {
            m.make(1, -1);
            m.meta(1, 0);
            m.move(0, 1);
        }
        m.move(1, -1);
        return m;
    }

    /** All that can be seen of the machine. */
    static String all(TriColourMachine m) {
        StringBuilder text = new StringBuilder();
        for (int what = 0; what <= 8; what++) {
            text.append(m.count(what)).append(' ');
        }
        for (int g = 0; g < 6; g++) {
            text.append(m.global(g)).append(' ');
        }
        for (int n = 0; n < 16; n++) {
            text.append('\n').append(n).append(": ").append(m.object(n, 0));
            if (m.object(n, 0) > 0) {
                text.append(oneObject(m, n));
            }
        }
        return text.toString();
    }

    private static String oneObject(TriColourMachine m, int n) {
        StringBuilder text = new StringBuilder();
        for (int what = 1; what <= 3; what++) {
            text.append(' ').append(m.object(n, what));
        }
        boolean table = m.object(n, 0) == 1;
        int rows = table ? m.object(n, 2) : 4;
        for (int i = 0; i < rows; i++) {
            text.append(' ').append(m.inside(n, i, false));
            if (table) {
                text.append(' ').append(m.inside(n, i, true));
            }
        }
        return text.toString();
    }
}
