/** Counts the answers of a test, and tells those that are not the ones that are due. */
final class Due {
    private final String name;
    private int told;
    private int wrong;

    Due(String name) {
        this.name = name;
    }

    void is(String call, long got, long due) {
        told++;
        if (got != due) {
            wrong++;
            System.out.println(name + ": " + call + " answered " + got + ", due is " + due);
        }
    }

    void holds(String what, boolean isSo) {
        told++;
        if (!isSo) {
            wrong++;
            System.out.println(name + ": " + what);
        }
    }

    boolean hasWrong() {
        return wrong > 0;
    }

    /** Ends the program: with exit code 1, if an answer was wrong. */
    void end() {
        System.out.println(name + ": " + told + " answers, " + wrong + " wrong");
        if (wrong > 0 || told == 0) {
            System.exit(1);
        }
    }
}
