import java.util.function.Consumer;

/** Runs a test for each sentence of the document, and ends the program with 1 if one is broken. */
final class Sentences {
    private int broken;

    void test(String sentence, Consumer<Check> test) {
        Check check = new Check();
        try {
            test.accept(check);
        } catch (RuntimeException thrown) {
            // The sentences behind this one are tested all the same.
            check.tell("thrown: " + thrown + " at " + thrown.getStackTrace()[0]);
        }
        if (check.isClean()) {
            System.out.println("  holds   " + sentence);
        } else {
            broken++;
            System.out.println("  BROKEN  " + sentence);
        }
    }

    void end() {
        if (broken != 0) {
            System.out.println(broken + " sentences are broken");
            System.exit(1);
        }
    }
}
