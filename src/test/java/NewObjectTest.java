/** Promise 1. */
public final class NewObjectTest {
    public static void main(String[] args) {
        Check check = new Check("NewObjectTest");
        TriColourMachine m = new TriColourMachine();
        for (int g = 0; g < 6; g++) {
            check.same("global " + g, Told.NIL, m.global(g));
        }
        for (int n = 0; n < 16; n++) {
            check.same("object " + n, 0, m.object(n, 0));
        }
        for (int what = 0; what <= 8; what++) {
            check.same("count " + what, 0, m.count(what));
        }
        for (int f = 0; f < 4; f++) {
            for (int i = 0; i < 16; i++) {
                nothingIsCoded(check, f, i);
            }
        }
        twoAreApart(check);
        check.end();
    }

    private static void nothingIsCoded(Check check, int f, int i) {
        TriColourMachine m = new TriColourMachine();
        if (i > 0) {
            m.code(f, 0, 12, 0, 0, i);
        }
        m.make(0, f);
        check.throwsA("instruction " + i + " of " + f, Check.WRONG, () -> m.resume(0, 0, 0));
        check.same("begun before " + i, i > 0 ? 1 : 0, m.count(5));
    }

    private static void twoAreApart(Check check) {
        TriColourMachine one = new TriColourMachine();
        TriColourMachine other = new TriColourMachine();
        one.make(0, -1);
        one.number(1, 7);
        one.set(0, 1, 1);
        one.code(0, 0, 19, 0, 0, 0);
        check.same("the other's objects", 0, other.count(0));
        check.same("the other's global", Told.NIL, other.global(1));
        other.make(0, 0);
        check.throwsA("the other's code", Check.WRONG, () -> other.resume(0, 0, 0));
    }
}
