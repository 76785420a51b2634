import java.util.function.IntPredicate;

/** What the tests of boundary cases share: the sentence under test, the wrong answers, texts and small cities. */
final class Bound {
    static final int LEAST = Integer.MIN_VALUE;
    static final int MOST = Integer.MAX_VALUE;

    private static int wrong = 0;
    private static int sentences = 0;
    private static int checks = 0;
    private static int checksBefore = 0;
    private static String promise = "";
    private static String sentence = "";

    private Bound() { }

    /** From now on this sentence of the document is under test; the promise is the one whose answers show it. */
    static void of(String newPromise, String newSentence) {
        lookBack();
        promise = newPromise;
        sentence = newSentence;
        sentences++;
        checksBefore = checks;
    }

    // A sentence that nothing was asked of would look as if it held.
    private static void lookBack() {
        if (sentences > 0 && checks == checksBefore) {
            wrong++;
            System.out.println("promise " + promise + ", \"" + sentence + "\": nothing was tested");
        }
    }

    static void due(long want, long got, String what) {
        checks++;
        if (want != got) {
            wrong++;
            System.out.println("promise " + promise + ", \"" + sentence + "\": " + what + " is " + got
                + ", due is " + want);
        }
    }

    static void yes(boolean got, String what) {
        due(1, got ? 1 : 0, what);
    }

    static void no(boolean got, String what) {
        due(0, got ? 1 : 0, what);
    }

    /** The least and the greatest are taken; those beside them and those far off are not. */
    static void between(int least, int most, IntPredicate taken, String what) {
        yes(taken.test(least), what + " " + least);
        yes(taken.test(most), what + " " + most);
        no(taken.test(least - 1), what + " " + (least - 1));
        no(taken.test(most + 1), what + " " + (most + 1));
        no(taken.test(LEAST), what + " " + LEAST);
        no(taken.test(MOST), what + " " + MOST);
    }

    static void finish(String name) {
        lookBack();
        System.out.println(name + ": " + sentences + " sentences, " + checks + " checks, " + wrong + " wrong");
        if (wrong != 0) {
            System.exit(1);
        }
    }

    /** Puts a text on an empty tape, in fives of four bytes, and cuts the tape behind it. */
    static void tape(PlateCity x, String text) {
        for (int from = 0; from < text.length(); from += 20) {
            int[] five = new int[5];
            for (int i = 0; i < 20; i++) {
                int sign = from + i < text.length() ? text.charAt(from + i) : ' ';
                five[i / 4] = five[i / 4] << 8 | sign;
            }
            x.feed(five[0], five[1], five[2], five[3], five[4]);
        }
        yes(x.end(text.length()), "the end of the tape behind " + text);
    }

    static int tell(PlateCity x, int office, String text) {
        tape(x, text);
        return x.terms(office);
    }

    /** The terms, read by a new object, have this fault at this place. */
    static void faulty(int kind, int place, String text) {
        PlateCity x = new PlateCity();
        due(-1, tell(x, 0, text), "terms " + text);
        due(kind, x.fault(0), "the fault of " + text);
        due(place, x.fault(1), "the fault's place in " + text);
        due(-1, x.force(0), "the force of " + text);
    }

    /** The terms, read by a new object, have no fault and so many statements. */
    static void sound(int statements, String text) {
        PlateCity x = new PlateCity();
        due(1, tell(x, 0, text), "terms " + text);
        due(0, x.fault(0), "the fault of " + text);
        due(-1, x.fault(1), "the fault's place in " + text);
        due(statements, x.force(0), "the force of " + text);
    }

    static PlateCity cityOf(int wide, int high) {
        PlateCity x = new PlateCity();
        yes(x.city(wide, high), "a city of " + wide + " by " + high);
        return x;
    }

    /** A city of one row with houses in all its cells. */
    static PlateCity row(int houses, int wall, int worth) {
        PlateCity x = cityOf(houses, 1);
        for (int cell = 0; cell < houses; cell++) {
            yes(x.house(cell, wall, 0, worth), "a house");
        }
        return x;
    }

    /** The greatest city, with houses in all its cells. */
    static PlateCity greatest(int wall, int worth) {
        PlateCity x = cityOf(12, 10);
        for (int cell = 0; cell < 120; cell++) {
            x.house(cell, wall, 0, worth);
        }
        return x;
    }

    static String times(int n, String text) {
        return text.repeat(n);
    }
}
