/** Boundary cases of promises 17 to 23. */
final class EdgesOfRoots {
    private static final String NO_NUMBER = "Throws `IllegalArgumentException` if the number is below 0 or above 32,767";
    private static final int[] ENDS = {0, 1, 2, 3, 4, 32760, 32761, 32762, 32766, 32767};

    private EdgesOfRoots() {
    }

    /** A call that asks for the root of a number, or of a quarter of it. */
    private interface AskedRoot {
        Object of(Pegfield x, int number, boolean isQuarter);
    }

    static void run() {
        root();
        rootBits();
        rootGrains();
        wholeRoot();
        isNearest();
        isHalved();
        between();
        betweenRefused();
    }

    private static void refused(int promise, AskedRoot asked) {
        Edge.refusedNumbers(promise, NO_NUMBER, "number", Edge.NO_NUMBERS, (x, bad) -> asked.of(x, bad, false));
        Edge.refusedNumbers(promise, NO_NUMBER, "quarter of a number", Edge.NO_NUMBERS,
                (x, bad) -> asked.of(x, bad, true));
    }

    private static String name(int number, boolean isQuarter) {
        return (isQuarter ? "a quarter of " : "") + number;
    }

    private static double value(int number, boolean isQuarter) {
        return StrictMath.sqrt(isQuarter ? number / 4.0 : number);
    }

    private static void root() {
        String words = "Returns the double nearest to the root.";
        for (int number : ENDS) {
            Edge.answers(17, words, name(number, false), value(number, false), Fields::fresh, x -> x.root(number, false));
            Edge.answers(17, words, name(number, true), value(number, true), Fields::full, x -> x.root(number, true));
        }
        Edge.answers(17, words, "0 without a sign", 0L, Fields::fresh, x -> Double.doubleToRawLongBits(x.root(0, false)));
        Edge.answers(17, words, "a quarter of 0 without a sign", 0L, Fields::fresh,
                x -> Double.doubleToRawLongBits(x.root(0, true)));
        Edge.onlyTells(17, words, x -> x.root(2, false));
        refused(17, (x, number, isQuarter) -> x.root(number, isQuarter));
    }

    private static void rootBits() {
        String words = "Returns the sign, exponent and fraction of the double nearest to the root, as a long.";
        for (int number : ENDS) {
            Edge.answers(18, words, name(number, false), Double.doubleToRawLongBits(value(number, false)),
                    Fields::fresh, x -> x.rootBits(number, false));
            Edge.answers(18, words, name(number, true), Double.doubleToRawLongBits(value(number, true)),
                    Fields::full, x -> x.rootBits(number, true));
        }
        Edge.answers(18, words, "no bits at 0", 0L, Fields::fresh, x -> x.rootBits(0, false));
        Edge.answers(18, words, "no fraction at 1", 1023L << 52, Fields::fresh, x -> x.rootBits(1, false));
        Edge.answers(18, words, "a lower exponent at a quarter", 1022L << 52, Fields::fresh, x -> x.rootBits(1, true));
        Edge.onlyTells(18, words, x -> x.rootBits(2, true));
        refused(18, (x, number, isQuarter) -> x.rootBits(number, isQuarter));
    }

    private static void rootGrains() {
        String words = "Returns the grains of the root.";
        for (int number : ENDS) {
            Edge.answers(19, words, name(number, false), Exact.grains(16L * number), Fields::fresh,
                    x -> x.rootGrains(number, false));
            Edge.answers(19, words, name(number, true), Exact.grains(4L * number), Fields::full,
                    x -> x.rootGrains(number, true));
        }
        Edge.answers(19, words, "rounded up", 46341, Fields::fresh, x -> x.rootGrains(2, true));
        Edge.answers(19, words, "rounded down", 113512, Fields::fresh, x -> x.rootGrains(3, false));
        Edge.onlyTells(19, words, x -> x.rootGrains(2, true));
        refused(19, (x, number, isQuarter) -> x.rootGrains(number, isQuarter));
    }

    private static void wholeRoot() {
        String words = "Returns the greatest whole number whose square is not above the number.";
        Edge.answers(20, words, "0", 0, Fields::fresh, x -> x.wholeRoot(0));
        Edge.answers(20, words, "the greatest number", 181, Fields::fresh, x -> x.wholeRoot(32767));
        for (int root = 1; root <= 181; root++) {
            int due = root;
            Edge.answers(20, words, "the square of " + root, due, Fields::fresh, x -> x.wholeRoot(due * due));
            Edge.answers(20, words, "one below the square of " + root, due - 1, Fields::fresh,
                    x -> x.wholeRoot(due * due - 1));
        }
        Edge.onlyTells(20, words, x -> x.wholeRoot(25));
        Edge.refusedNumbers(20, NO_NUMBER, "number", Edge.NO_NUMBERS, (x, bad) -> x.wholeRoot(bad));
    }

    private static void isNearest() {
        String words = "below and above it have the number, or its quarter, between them";
        String none = "true if number and root are 0";
        for (int number : ENDS) {
            Edge.answers(21, number == 0 ? none : words, name(number, false), true, Fields::fresh,
                    x -> x.isNearest(number, false));
            Edge.answers(21, number == 0 ? none : words, name(number, true), true, Fields::full,
                    x -> x.isNearest(number, true));
        }
        Edge.onlyTells(21, words, x -> x.isNearest(3, true));
        refused(21, (x, number, isQuarter) -> x.isNearest(number, isQuarter));
    }

    private static void isHalved() {
        String words = "Returns whether twice the one is, bit by bit, the other.";
        for (int number : ENDS) {
            Edge.answers(22, words, name(number, false), true, Fields::fresh, x -> x.isHalved(number));
        }
        Edge.onlyTells(22, words, x -> x.isHalved(5));
        Edge.refusedNumbers(22, NO_NUMBER, "number", Edge.NO_NUMBERS, (x, bad) -> x.isHalved(bad));
    }

    private static void between() {
        String words = "Returns how many whole numbers are above the first root, and not above the second one";
        for (int root = 1; root <= 181; root++) {
            int square = root * root;
            Edge.answers(23, words, "up to the square " + square, 1, Fields::fresh,
                    x -> x.between(square - 1, square, false));
            Edge.answers(23, words, "from the square " + square, 0, Fields::fresh,
                    x -> x.between(square, square + 1, false));
        }
        for (int root = 1; root <= 90; root++) {
            int square = 4 * root * root;
            Edge.answers(23, words, "up to the square, a quarter of " + square, 1, Fields::fresh,
                    x -> x.between(square - 1, square, true));
            Edge.answers(23, words, "from the square, a quarter of " + square, 0, Fields::fresh,
                    x -> x.between(square, square + 3, true));
        }
        Edge.answers(23, words, "all", 181, Fields::fresh, x -> x.between(0, 32767, false));
        Edge.answers(23, words, "all of the quarters", 90, Fields::full, x -> x.between(0, 32767, true));
        Edge.answers(23, words, "0 is not above the root of 0", 1, Fields::fresh, x -> x.between(0, 3, false));
        String none = "0 if the second number is not above the first one";
        for (int number : ENDS) {
            Edge.answers(23, none, "twice " + number, 0, Fields::fresh, x -> x.between(number, number, false));
            Edge.answers(23, none, "twice a quarter of " + number, 0, Fields::full, x -> x.between(number, number, true));
        }
        Edge.answers(23, none, "one less", 0, Fields::fresh, x -> x.between(16, 15, false));
        Edge.answers(23, none, "one less, quarters", 0, Fields::fresh, x -> x.between(16, 15, true));
        Edge.answers(23, none, "far less", 0, Fields::full, x -> x.between(32767, 0, false));
        Edge.answers(23, none, "far less, quarters", 0, Fields::full, x -> x.between(32767, 0, true));
        Edge.onlyTells(23, words, x -> x.between(10, 30, true));
    }

    private static void betweenRefused() {
        String words = "Throws `IllegalArgumentException` if one of the numbers is below 0 or above 32,767";
        for (int quarter = 0; quarter < 2; quarter++) {
            boolean isQuarter = quarter == 1;
            String kind = isQuarter ? "quarters, " : "";
            Edge.refusedNumbers(23, words, kind + "the one", Edge.NO_NUMBERS, (x, bad) -> x.between(bad, 5, isQuarter));
            Edge.refusedNumbers(23, words, kind + "the other", Edge.NO_NUMBERS, (x, bad) -> x.between(5, bad, isQuarter));
            Edge.refusedNumbers(23, words, kind + "both", Edge.NO_NUMBERS, (x, bad) -> x.between(bad, bad, isQuarter));
            Edge.refusedNumbers(23, words, kind + "the one, beside 0,", Edge.NO_NUMBERS,
                    (x, bad) -> x.between(bad, 0, isQuarter));
            Edge.refusedNumbers(23, words, kind + "the other, beside 32767,", Edge.NO_NUMBERS,
                    (x, bad) -> x.between(32767, bad, isQuarter));
            Edge.refused(23, words, kind + "too small up to too large", Fields::fresh,
                    x -> x.between(-1, 32768, isQuarter));
            Edge.refused(23, words, kind + "too large down to too small", Fields::fresh,
                    x -> x.between(32768, -1, isQuarter));
        }
    }
}
