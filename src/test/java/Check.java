/** Counts what a test asks, prints every answer that is not due, and ends with 1 if there was one. */
final class Check {
    /** A call that should throw, so that its answer does not matter. */
    interface Deed {
        void act();
    }

    static final Class<?> BAD = IllegalArgumentException.class;
    static final Class<?> WRONG = UnsupportedOperationException.class;
    static final Class<?> NO = IllegalStateException.class;
    static final Class<?> ABSENT = java.util.NoSuchElementException.class;

    private final String name;
    private int asked = 0;
    private int faults = 0;

    Check(String name) {
        this.name = name;
    }

    void same(String what, long want, long got) {
        asked++;
        if (want != got) {
            fault(what + " answered " + got + ", due is " + want);
        }
    }

    void holds(String what, boolean holds) {
        asked++;
        if (!holds) {
            fault(what + ": it does not hold");
        }
    }

    void throwsA(String what, Class<?> want, Deed deed) {
        asked++;
        try {
            deed.act();
            fault(what + " threw nothing, due is " + want.getSimpleName());
        } catch (RuntimeException e) {
            if (e.getClass() != want) {
                fault(what + " threw " + e + ", due is " + want.getSimpleName());
            }
        }
    }

    void end() {
        System.out.println(name + ": " + asked + " asked, " + faults + " not as due");
        if (faults > 0 || asked == 0) {
            System.exit(1);
        }
    }

    private void fault(String text) {
        faults++;
        System.out.println(name + ": " + text);
    }
}
