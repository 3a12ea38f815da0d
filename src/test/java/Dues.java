/** Holds answers against those that are due, and prints each that is not. */
final class Dues {
    static final int LOW = -1000000000;
    static final int BEYOND = LOW - 1;
    static final int NONE = LOW - 2;
    static final int STATE = LOW - 3;
    static final int FULL = LOW - 4;
    static final int KIND = LOW - 5;
    static final int PARTED = LOW - 6;
    static final int[] WILD = {Integer.MIN_VALUE, -1440, -1, 1440, 10000, 1 << 20, Integer.MAX_VALUE};

    private final String name;
    private int asked;
    private int wrong;

    Dues(String name) {
        this.name = name;
    }

    void due(String call, long got, long want) {
        asked++;
        if (got != want) {
            wrong++;
            System.out.println(name + ": " + call + " answered " + got + ", due is " + want);
        }
    }

    /** Ends the test's run, with exit code 1 if an answer was wrong. */
    void end() {
        System.out.println(name + ": " + asked + " answers, " + wrong + " wrong");
        if (wrong > 0) {
            System.exit(1);
        }
    }

    /** Feeds a text's bytes to the tape, eight at most at once. */
    static void feed(HandTown x, String text) {
        for (int from = 0; from < text.length(); from += 8) {
            int n = Math.min(8, text.length() - from);
            x.feed(word(text.substring(from, from + n)), n);
        }
    }

    /** The word whose lowest byte is the text's first one. */
    static long word(String text) {
        long word = 0;
        for (int i = text.length() - 1; i >= 0; i--) {
            word = word << 8 | text.charAt(i);
        }
        return word;
    }

    static int read(HandTown x, int use, String text) {
        feed(x, text);
        return x.text(use);
    }
}
