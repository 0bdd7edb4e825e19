/** Boundary cases of promises 9 to 16. */
final class EdgesOfStretches {
    private static final String NO_NUMBER = "Throws `IndexOutOfBoundsException` if there is no such number";
    private static final String EITHER = NO_NUMBER + ", for either";
    private static final String ONE_ABSENT = "Throws `NoSuchElementException` if one of both does not stand";
    private static final int[][] LEGS = {{0, 0}, {1, 0}, {0, 1}, {1, 1}, {-1, 1}, {90, 0}, {0, -90}, {90, 1},
        {-89, 90}, {90, 90}, {-90, -90}};

    private EdgesOfStretches() {
    }

    /** A call that asks for two pegs by number. */
    private interface AskedTwo {
        Object of(Pegfield x, int from, int to);
    }

    static void run() {
        stretch();
        checks();
        isStraight();
        isStraightRefused();
        nearest();
        nearestRefused();
        rank();
        isIn();
        isInRefused();
    }

    private static void refusedTwo(int promise, String noNumber, AskedTwo asked) {
        Edge.refusedNumbers(promise, noNumber, "the one", Edge.NO_PEGS, (x, bad) -> asked.of(x, bad, 0));
        Edge.refusedNumbers(promise, noNumber, "the other one", Edge.NO_PEGS, (x, bad) -> asked.of(x, 0, bad));
        Edge.refusedNumbers(promise, noNumber, "both", Edge.NO_PEGS, (x, bad) -> asked.of(x, bad, bad));
        Edge.refusedNumbers(promise, noNumber, "the one, and the other absent;", Edge.NO_PEGS,
                (x, bad) -> asked.of(x, bad, 11));
        Edge.refusedNumbers(promise, noNumber, "the other, and the one absent;", Edge.NO_PEGS,
                (x, bad) -> asked.of(x, 11, bad));
        Edge.refused(promise, ONE_ABSENT, "a new field", Fields::fresh, x -> asked.of(x, 0, 11));
        Edge.refused(promise, ONE_ABSENT, "a new field, itself", Fields::fresh, x -> asked.of(x, 0, 0));
        Edge.refused(promise, ONE_ABSENT, "the one", Fields::joined, x -> asked.of(x, 11, 0));
        Edge.refused(promise, ONE_ABSENT, "the other one", Fields::joined, x -> asked.of(x, 0, 3));
        Edge.refused(promise, ONE_ABSENT, "both", Fields::joined, x -> asked.of(x, 3, 4));
        Edge.refused(promise, ONE_ABSENT, "itself", Fields::joined, x -> asked.of(x, 5, 5));
        Edge.refused(promise, ONE_ABSENT, "taken before, the one",
                () -> EdgesOfPegs.without(Fields.three(), 2), x -> asked.of(x, 2, 0));
        Edge.refused(promise, ONE_ABSENT, "taken before, the other one",
                () -> EdgesOfPegs.without(Fields.three(), 2), x -> asked.of(x, 0, 2));
    }

    private static void stretch() {
        String words = "Returns its grains.";
        for (int[] two : LEGS) {
            for (int wide = 0; wide < 2; wide++) {
                boolean isWide = wide == 1;
                Edge.answers(9, words, "legs " + two[0] + " and " + two[1] + (isWide ? ", widened" : ""),
                        Exact.grains(two[0], two[1], isWide), () -> Fields.legs(two[0], two[1], isWide),
                        x -> x.stretch(0, 1));
            }
        }
        Edge.answers(9, words, "of a peg itself", 0, Fields::full, x -> x.stretch(11, 11));
        Edge.answers(9, words, "of two at one place", 0, () -> Fields.atOnePlace(12), x -> x.stretch(0, 11));
        Edge.answers(9, words, "rounded down", 23170, EdgesOfTerms::aslant, x -> x.stretch(0, 1));
        Edge.answers(9, words, "rounded up", 46341, EdgesOfTerms::aslant, x -> x.stretch(0, 2));
        Edge.onlyTells(9, words, x -> x.stretch(0, 1));
        refusedTwo(9, EITHER, (x, from, to) -> x.stretch(from, to));
    }

    private static void checks() {
        String eight = "Returns whether all eight have the same bits.";
        String twice = "is, bit by bit, twice the one of the field as it was at first";
        String between = "have the sum of the squares of its legs between them (or are it)";
        String none = "true if both legs are 0 and the stretch is";
        for (int[] two : LEGS) {
            for (int wide = 0; wide < 2; wide++) {
                boolean isWide = wide == 1;
                Edge.Made made = () -> Fields.legs(two[0], two[1], isWide);
                String what = "legs " + two[0] + " and " + two[1] + (isWide ? ", widened" : "");
                boolean hasNone = two[0] == 0 && two[1] == 0;
                Edge.answers(10, eight, what, true, made, x -> x.isSteady(0, 1));
                Edge.answers(11, twice, what, true, made, x -> x.isDoubled(0, 1));
                Edge.answers(12, hasNone ? none : between, what, true, made, x -> x.isClose(0, 1));
                Edge.answers(12, hasNone ? none : between, what + ", back", true, made, x -> x.isClose(1, 0));
            }
        }
        Edge.answers(10, eight, "of a peg itself", true, Fields::full, x -> x.isSteady(11, 11));
        Edge.answers(11, twice, "of a peg itself", true, Fields::full, x -> x.isDoubled(11, 11));
        Edge.answers(12, none, "of a peg itself", true, Fields::full, x -> x.isClose(11, 11));
        Edge.onlyTells(10, eight, x -> x.isSteady(0, 1));
        Edge.onlyTells(11, twice, x -> x.isDoubled(0, 1));
        Edge.onlyTells(12, between, x -> x.isClose(0, 1));
        refusedTwo(10, EITHER, (x, from, to) -> x.isSteady(from, to));
        refusedTwo(11, EITHER, (x, from, to) -> x.isDoubled(from, to));
        refusedTwo(12, EITHER, (x, from, to) -> x.isClose(from, to));
    }

    private static void isStraight() {
        String words = "are at most one more than those from the first to the third";
        Edge.test(13, words, "one more", () -> {
            Pegfield x = EdgesOfTerms.aslant();
            Edge.due(1, () -> x.stretch(0, 2) - (x.stretch(0, 1) + x.stretch(1, 2)));
            Edge.due(true, () -> x.isStraight(0, 1, 2));
            Edge.due(true, () -> x.isStraight(2, 1, 0));
        });
        Edge.test(13, words, "as many", () -> {
            Pegfield x = EdgesOfTerms.aslant();
            x.put(0, 3, 6);
            x.put(1, 4, 6);
            Edge.due(0, () -> x.stretch(0, 2) - (x.stretch(0, 1) + x.stretch(1, 2)));
            Edge.due(true, () -> x.isStraight(0, 1, 2));
        });
        Edge.answers(13, words, "by the first one", true, Fields::full, x -> x.isStraight(0, 0, 11));
        Edge.answers(13, words, "by the second one", true, Fields::full, x -> x.isStraight(0, 11, 11));
        Edge.answers(13, words, "to itself", true, Fields::full, x -> x.isStraight(11, 0, 11));
        Edge.answers(13, words, "thrice the same", true, Fields::one, x -> x.isStraight(6, 6, 6));
        Edge.answers(13, words, "all at one place", true, () -> Fields.atOnePlace(3), x -> x.isStraight(0, 1, 2));
        for (int ways = 0; ways < 6; ways++) {
            int from = ways % 3;
            int by = (from + 1 + ways / 3) % 3;
            int to = 3 - from - by;
            Edge.answers(13, words, "from " + from + " by " + by, true, Fields::three, x -> x.isStraight(from, by, to));
        }
        Edge.onlyTells(13, words, x -> x.isStraight(0, 1, 2));
    }

    private static void isStraightRefused() {
        String noNumber = NO_NUMBER + ", for one of them";
        String absent = "Throws `NoSuchElementException` if one of them does not stand";
        Edge.refusedNumbers(13, noNumber, "the first", Edge.NO_PEGS, (x, bad) -> x.isStraight(bad, 0, 1));
        Edge.refusedNumbers(13, noNumber, "the third", Edge.NO_PEGS, (x, bad) -> x.isStraight(0, bad, 1));
        Edge.refusedNumbers(13, noNumber, "the second", Edge.NO_PEGS, (x, bad) -> x.isStraight(0, 1, bad));
        Edge.refusedNumbers(13, noNumber, "all", Edge.NO_PEGS, (x, bad) -> x.isStraight(bad, bad, bad));
        for (int bad : new int[] {-1, 12}) {
            Edge.refused(13, noNumber, "the first, others absent, " + bad, Fields::joined,
                    x -> x.isStraight(bad, 10, 11));
            Edge.refused(13, noNumber, "the third, others absent, " + bad, Fields::joined,
                    x -> x.isStraight(10, bad, 11));
            Edge.refused(13, noNumber, "the second, others absent, " + bad, Fields::joined,
                    x -> x.isStraight(10, 11, bad));
        }
        Edge.refused(13, absent, "the first", Fields::joined, x -> x.isStraight(11, 0, 1));
        Edge.refused(13, absent, "the third", Fields::joined, x -> x.isStraight(0, 11, 1));
        Edge.refused(13, absent, "the second", Fields::joined, x -> x.isStraight(0, 1, 11));
        Edge.refused(13, absent, "all", Fields::fresh, x -> x.isStraight(0, 1, 2));
        Edge.refused(13, absent, "thrice the same", Fields::fresh, x -> x.isStraight(0, 0, 0));
        Edge.refused(13, absent, "taken before", () -> EdgesOfPegs.without(Fields.three(), 1),
                x -> x.isStraight(0, 1, 2));
    }

    private static void nearest() {
        String words = "Returns the number of that other one, the lowest of several.";
        Edge.answers(14, words, "of two, the higher", 11, () -> two(0, 11), x -> x.nearest(0));
        Edge.answers(14, words, "of two, the lower", 0, () -> two(0, 11), x -> x.nearest(11));
        Edge.answers(14, words, "twelve at one place, of the lowest", 1, () -> Fields.atOnePlace(12), x -> x.nearest(0));
        Edge.answers(14, words, "twelve at one place, of the highest", 0, () -> Fields.atOnePlace(12), x -> x.nearest(11));
        Edge.test(14, words, "as near on four sides", () -> {
            Pegfield x = new Pegfield();
            x.put(5, 45, 45);
            x.put(3, 46, 45);
            x.put(11, 44, 45);
            x.put(8, 45, 46);
            x.put(0, 45, 43);
            Edge.due(3, () -> x.nearest(5));
            x.take(3);
            Edge.due(8, () -> x.nearest(5));
            x.put(1, 44, 45);
            Edge.due(1, () -> x.nearest(5));
        });
        Edge.test(14, words, "the highest is nearer by one place", () -> {
            Pegfield x = new Pegfield();
            x.put(0, 0, 90);
            x.put(4, 90, 90);
            x.put(11, 1, 90);
            Edge.due(11, () -> x.nearest(4));
            x.step(11, 'w');
            Edge.due(0, () -> x.nearest(4));
        });
        Edge.test(14, words, "the same, widened", () -> {
            Pegfield x = Fields.full();
            for (int peg = 0; peg < 12; peg++) {
                int asked = peg;
                Edge.due(asked == 0 ? 1 : asked - 1, () -> x.nearest(asked));
            }
            x.widen(false);
            Edge.due(10, () -> x.nearest(11));
        });
        Edge.onlyTells(14, words, x -> x.nearest(1));
    }

    private static void nearestRefused() {
        String absent = "Throws `NoSuchElementException` if it does not stand";
        String alone = "Throws `IllegalStateException` if no other one stands";
        Edge.refusedNumbers(14, NO_NUMBER, "peg", Edge.NO_PEGS, (x, bad) -> x.nearest(bad));
        for (int bad : new int[] {-1, 12}) {
            Edge.refused(14, NO_NUMBER, "and one stands alone, " + bad, Fields::one, x -> x.nearest(bad));
        }
        Edge.refused(14, absent, "none stands, the first", Fields::fresh, x -> x.nearest(0));
        Edge.refused(14, absent, "none stands, the last", Fields::fresh, x -> x.nearest(11));
        Edge.refused(14, absent, "one other stands alone", Fields::one, x -> x.nearest(7));
        Edge.refused(14, absent, "others stand", Fields::joined, x -> x.nearest(3));
        Edge.refused(14, alone, "one alone", Fields::one, x -> x.nearest(6));
        Edge.refused(14, alone, "one alone, thrice in the ring", () -> {
            Pegfield x = Fields.one();
            x.join(6);
            x.join(6);
            x.join(6);
            return x;
        }, x -> x.nearest(6));
        Edge.refused(14, alone, "the others taken", () -> EdgesOfPegs.without(two(0, 11), 0), x -> x.nearest(11));
    }

    private static Pegfield two(int low, int high) {
        Pegfield x = new Pegfield();
        x.put(low, 0, 0);
        x.put(high, 90, 90);
        return x;
    }

    private static void rank() {
        String words = "Returns how many pairs of two different numbers of pegs that stand, each pair once.";
        Edge.answers(15, words, "a peg itself, alone", 0, Fields::one, x -> x.rank(6, 6));
        Edge.answers(15, words, "the only pair", 0, () -> two(0, 11), x -> x.rank(0, 11));
        Edge.answers(15, words, "a peg itself, among many at its place", 0, () -> Fields.atOnePlace(12), x -> x.rank(3, 3));
        Edge.answers(15, words, "two at one place", 0, () -> Fields.atOnePlace(12), x -> x.rank(0, 11));
        Edge.test(15, words, "as near ones do not count", () -> {
            Pegfield x = Fields.rounds(90, 90, 1);
            Edge.due(0, () -> x.rank(0, 1));
            Edge.due(0, () -> x.rank(3, 0));
            Edge.due(4, () -> x.rank(0, 2));
            Edge.due(4, () -> x.rank(3, 1));
        });
        Edge.test(15, words, "all the other 65", () -> {
            Pegfield x = Fields.atOnePlace(12);
            x.put(0, 0, 0);
            x.put(11, 90, 90);
            Edge.due(65, () -> x.rank(0, 11));
            Edge.due(65, () -> x.rank(11, 0));
            Edge.due(45, () -> x.rank(0, 5));
            Edge.due(45 + 10, () -> x.rank(11, 5));
            x.widen(true);
            Edge.due(65, () -> x.rank(0, 11));
        });
        Edge.test(15, words, "one that was taken does not count", () -> {
            Pegfield x = Fields.three();
            Edge.due(2, () -> x.rank(0, 2));
            x.take(1);
            Edge.due(0, () -> x.rank(0, 2));
        });
        Edge.onlyTells(15, words, x -> x.rank(0, 2));
        refusedTwo(15, EITHER, (x, from, to) -> x.rank(from, to));
    }

    private static void isIn() {
        String words = "Returns whether the grains of the stretch are at most those of the root.";
        Edge.answers(16, words, "as many grains", true, Fields::three, x -> x.isIn(1, 0, 25, false));
        Edge.answers(16, words, "the next number below", false, Fields::three, x -> x.isIn(1, 0, 24, false));
        Edge.answers(16, words, "the next number above", true, Fields::three, x -> x.isIn(1, 0, 26, false));
        Edge.answers(16, words, "as many grains, quarter", true, Fields::three, x -> x.isIn(0, 1, 100, true));
        Edge.answers(16, words, "the next quarter below", false, Fields::three, x -> x.isIn(0, 1, 99, true));
        Edge.answers(16, words, "as many, rounded", true, EdgesOfTerms::aslant, x -> x.isIn(0, 2, 2, true));
        Edge.answers(16, words, "no width, itself", true, Fields::full, x -> x.isIn(11, 11, 0, false));
        Edge.answers(16, words, "no width, itself, quarter", true, Fields::one, x -> x.isIn(6, 6, 0, true));
        Edge.answers(16, words, "no width, at one place", true, () -> Fields.atOnePlace(2), x -> x.isIn(0, 1, 0, false));
        Edge.answers(16, words, "no width, one place off", false, EdgesOfTerms::aslant, x -> x.isIn(0, 1, 0, true));
        Edge.test(16, words, "the longest stretch", () -> {
            Pegfield x = Fields.legs(-90, 90, false);
            Edge.due(true, () -> x.isIn(0, 1, 4050, true));
            Edge.due(false, () -> x.isIn(0, 1, 4049, true));
            Edge.due(true, () -> x.isIn(0, 1, 1013, false));
            Edge.due(false, () -> x.isIn(0, 1, 1012, false));
        });
        Edge.test(16, words, "the longest stretch, widened", () -> {
            Pegfield x = Fields.legs(90, 90, true);
            Edge.due(true, () -> x.isIn(1, 0, 16200, true));
            Edge.due(false, () -> x.isIn(1, 0, 16199, true));
            Edge.due(true, () -> x.isIn(1, 0, 4050, false));
            Edge.due(false, () -> x.isIn(1, 0, 4049, false));
            Edge.due(true, () -> x.isIn(1, 0, 32767, false));
            Edge.due(true, () -> x.isIn(1, 0, 32767, true));
        });
        Edge.onlyTells(16, words, x -> x.isIn(0, 1, 25, false));
    }

    private static void isInRefused() {
        String noNumber = "Throws `IllegalArgumentException` if the number is below 0 or above 32,767";
        refusedTwo(16, NO_NUMBER + " of a peg, for either", (x, peg, middle) -> x.isIn(peg, middle, 1, false));
        refusedTwo(16, NO_NUMBER + " of a peg, for either", (x, peg, middle) -> x.isIn(peg, middle, 32768, true));
        for (int bad : Edge.NO_NUMBERS) {
            String what = (bad < 0 ? "too small, " : "too large, ") + bad;
            Edge.refusedWhenSet(16, noNumber, what, x -> x.isIn(0, 1, bad, false));
            Edge.refusedWhenSet(16, noNumber, what + ", quarter", x -> x.isIn(0, 1, bad, true));
            Edge.refusedWhenSet(16, noNumber, what + ", itself", x -> x.isIn(2, 2, bad, false));
        }
    }
}
