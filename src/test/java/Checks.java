/** Counts the calls whose answer is not the one that is due, and prints them. */
final class Checks {
    private int made;
    private int wrong;

    void due(String call, long got, long want) {
        made++;
        if (got != want) {
            wrong++;
            System.out.println(call + " answered " + got + ", due is " + want);
        }
    }

    void due(String call, boolean got, boolean want) {
        due(call, got ? 1L : 0L, want ? 1L : 0L);
    }

    void due(String call, String got, String want) {
        made++;
        if (!got.equals(want)) {
            wrong++;
            System.out.println(call + " answered" + System.lineSeparator() + got + System.lineSeparator()
                    + "due is" + System.lineSeparator() + want);
        }
    }

    boolean failed() {
        return wrong != 0;
    }

    void end() {
        if (wrong != 0) {
            System.out.println(wrong + " of " + made + " answers are not as due");
            System.exit(1);
        }
        System.out.println(made + " answers are as due");
    }
}
