import java.io.IOException;
import java.nio.file.Files;
import java.nio.file.Path;
import java.util.HashSet;
import java.util.Set;

/** Counts what a test asks, prints every answer that is not due, and ends with 1 if there was one. */
final class Check {
    private static final Path DOCUMENT = Path.of("..", "shared", "DOC.md");

    /** A call that should throw, so that its answer does not matter. */
    interface Deed {
        void act();
    }

    static final Class<?> BAD = IllegalArgumentException.class;
    static final Class<?> WRONG = UnsupportedOperationException.class;
    static final Class<?> NO = IllegalStateException.class;
    static final Class<?> ABSENT = java.util.NoSuchElementException.class;

    private final String name;
    private String words = "";
    private String document = "";
    private boolean documentIsThere = false;
    private final Set<String> sentences = new HashSet<>();
    private int askedBefore = 0;
    private int asked = 0;
    private int faults = 0;

    Check(String name) {
        this.name = name;
    }

    /** What is asked from here on is asked for these words, which must stand in the document. */
    void sentence(String next) {
        endSentence();
        words = next;
        askedBefore = asked;
        if (sentences.isEmpty()) {
            readDocument();
        }
        sentences.add(next);
        if (documentIsThere && !document.contains(next)) {
            fault("the document does not say so");
        }
    }

    private void endSentence() {
        if (!sentences.isEmpty() && asked == askedBefore) {
            fault("nothing was asked for it");
        }
    }

    /** Without its folds and its marks of code blocks; where it is not, only the words go unchecked. */
    private void readDocument() {
        try {
            document = Files.readString(DOCUMENT).replaceAll("```\\w*", " ").replaceAll("\\s+", " ");
            documentIsThere = true;
        } catch (IOException e) {
            System.out.println(name + ": no document at " + DOCUMENT + ", its words are not checked");
        }
    }

    void same(String what, long want, long got) {
        asked++;
        if (want != got) {
            fault(what + " answered " + got + ", due is " + want);
        }
    }

    void holds(String what, boolean holds) {
        asked++;
        if (!holds) {
            fault(what + ": it does not hold");
        }
    }

    void throwsA(String what, Class<?> want, Deed deed) {
        asked++;
        try {
            deed.act();
            fault(what + " threw nothing, due is " + want.getSimpleName());
        } catch (RuntimeException e) {
            if (e.getClass() != want) {
                fault(what + " threw " + e + ", due is " + want.getSimpleName());
            }
        }
    }

    /** The call throws, and all that can be seen is then as it was before. */
    void refused(String what, Class<?> want, TriColourMachine m, Deed deed) {
        String before = Told.all(m);
        throwsA(what, want, deed);
        holds(what + " changes nothing", before.equals(Told.all(m)));
    }

    void end() {
        endSentence();
        String of = sentences.isEmpty() ? "" : " for " + sentences.size() + " sentences";
        System.out.println(name + ": " + asked + " asked" + of + ", " + faults + " not as due");
        if (faults > 0 || asked == 0) {
            System.exit(1);
        }
    }

    private void fault(String text) {
        faults++;
        System.out.println(name + ": " + (sentences.isEmpty() ? "" : "\"" + words + "\": ") + text);
    }
}
