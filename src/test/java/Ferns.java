/** Short ways to objects in a wanted state. */
final class Ferns {
    static final int NONE = -1, UNKNOWN = -101, OUTSIDE = -102, STATE = -103, FULL = -104;
    static final int[] NO_FROND_OF_TEN = {-1, 10, 11, Integer.MIN_VALUE, Integer.MAX_VALUE};
    static final int[] NO_PERSON = {-1, 6, 7, Integer.MIN_VALUE, Integer.MAX_VALUE};

    private Ferns() {
    }

    /** Up to eight letters, as letters() takes them. */
    static long coded(String text) {
        long w = 0;
        for (int i = 0; i < text.length(); i++) {
            w |= (long) text.charAt(i) << (8 * i);
        }
        return w;
    }

    static int write(PressedFerns x, String text) {
        int answer = x.letters(0);
        for (int i = 0; i < text.length(); i += 8) {
            answer = x.letters(coded(text.substring(i, Math.min(text.length(), i + 8))));
        }
        return answer;
    }

    static int come(PressedFerns x, int person, String book) {
        write(x, book);
        return x.book(person);
    }

    static PressedFerns with(int person, String book) {
        PressedFerns x = new PressedFerns();
        if (come(x, person, book) < 1) {
            throw new IllegalStateException("no book: " + book);
        }
        return x;
    }

    /** Debts as rows of three numbers: who, to whom, how much. */
    static PressedFerns owing(int... rows) {
        PressedFerns x = new PressedFerns();
        for (int i = 0; i < rows.length; i += 3) {
            x.debt(rows[i], rows[i + 1], rows[i + 2]);
        }
        return x;
    }
}
