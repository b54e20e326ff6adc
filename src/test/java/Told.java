/** How the tests write what the document tells, and a short way to give a FUNCTION its code. */
final class Told {
    static final long NIL = -1000000000000L;
    static final int MIN = Integer.MIN_VALUE;
    static final int MAX = Integer.MAX_VALUE;

    private Told() {
    }

    static long object(int n) {
        return 10000000000L + n;
    }

    /** Rows of op, a, b, c from INSTRUCTION 0 on. */
    static void program(TriColourMachine m, int f, int[]... rows) {
        for (int i = 0; i < rows.length; i++) {
            m.code(f, i, rows[i][0], rows[i][1], rows[i][2], rows[i][3]);
        }
    }

    static int[] op(int op, int a, int b, int c) {
        return new int[] {op, a, b, c};
    }

    /** A new machine whose GLOBAL 0 is a COROUTINE (OBJECT 0) of FUNCTION 0 with these rows. */
    static TriColourMachine machine(int[]... rows) {
        TriColourMachine m = new TriColourMachine();
        program(m, 0, rows);
        m.make(0, 0);
        return m;
    }

    /** GLOBAL t's KEY, a NUMBER, is set to a NUMBER; GLOBALS 4 and 5 are used up. */
    static void put(TriColourMachine m, int t, int key, int value) {
        m.number(4, key);
        m.number(5, value);
        m.set(t, 4, 5);
    }

    /** GLOBAL t's KEY, a NUMBER, is set to GLOBAL v; GLOBAL 5 is used up. */
    static void link(TriColourMachine m, int t, int key, int v) {
        m.number(5, key);
        m.set(t, 5, v);
    }
}
