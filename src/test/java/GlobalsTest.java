/** Promises 3, 4 and 12. */
public final class GlobalsTest {
    private static final int[] BAD = {-1, 6, Told.MIN, Told.MAX};

    public static void main(String[] args) {
        Check check = new Check("GlobalsTest");
        number(check);
        move(check);
        bad(check);
        check.end();
    }

    private static void number(Check check) {
        TriColourMachine m = new TriColourMachine();
        int[] numbers = {0, 1, -1, Told.MAX, Told.MIN, 123456};
        for (int g = 0; g < 6; g++) {
            m.number(g, numbers[g]);
        }
        for (int g = 0; g < 6; g++) {
            check.same("global " + g, numbers[g], m.global(g));
        }
        m.number(3, 9);
        check.same("again", 9, m.global(3));
        check.same("its neighbour", Told.MIN, m.global(4));
    }

    private static void move(Check check) {
        TriColourMachine m = new TriColourMachine();
        m.number(5, 8);
        m.move(0, 5);
        check.same("a number", 8, m.global(0));
        check.same("it stays where it was", 8, m.global(5));
        m.make(1, -1);
        m.move(2, 1);
        check.same("an object", Told.object(0), m.global(2));
        m.move(3, 4);
        check.same("nil", Told.NIL, m.global(3));
        m.move(0, -1);
        check.same("nil by -1", Told.NIL, m.global(0));
        m.move(1, 1);
        check.same("itself", Told.object(0), m.global(1));
    }

    private static void bad(Check check) {
        TriColourMachine m = new TriColourMachine();
        m.number(0, 4);
        for (int g : BAD) {
            check.throwsA("number " + g, Check.BAD, () -> m.number(g, 1));
            check.throwsA("move " + g, Check.BAD, () -> m.move(g, 0));
            check.throwsA("global " + g, Check.BAD, () -> m.global(g));
        }
        for (int h : new int[] {-2, 6, Told.MIN, Told.MAX}) {
            check.throwsA("move from " + h, Check.BAD, () -> m.move(0, h));
        }
        check.same("nothing has changed", 4, m.global(0));
    }
}
