/** Compares answers with those that are due, and tells each that is not. */
final class Check {
    private int wrong;

    void due(String call, int got, int want) {
        if (got != want) {
            tell(call + " answered " + got + ", due is " + want);
        }
    }

    void due(String call, boolean got, boolean want) {
        if (got != want) {
            tell(call + " answered " + got + ", due is " + want);
        }
    }

    void tell(String text) {
        wrong++;
        System.out.println(text);
    }

    boolean isClean() {
        return wrong == 0;
    }

    void end() {
        if (wrong != 0) {
            System.out.println(wrong + " answers are not as due");
            System.exit(1);
        }
    }
}
