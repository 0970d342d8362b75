/** Compares answers with those that are due, and ends the test's program with 1 if one was wrong. */
final class Check {
    private int wrong;

    void due(String call, int got, int want) {
        if (got != want) {
            tell(call, Integer.toString(got), Integer.toString(want));
        }
    }

    void due(String call, boolean got, boolean want) {
        if (got != want) {
            tell(call, Boolean.toString(got), Boolean.toString(want));
        }
    }

    boolean isClean() {
        return wrong == 0;
    }

    void end() {
        if (wrong != 0) {
            System.out.println(wrong + " answers are not as due");
            System.exit(1);
        }
    }

    private void tell(String call, String got, String want) {
        wrong++;
        System.out.println(call + " answered " + got + ", due is " + want);
    }
}
