import java.math.BigDecimal;

/** Boundary cases of what the document says ahead of its promises. */
final class EdgesOfTerms {
    private EdgesOfTerms() {
    }

    static void run() {
        roots();
        stretches();
        places();
        pegs();
        ring();
        numbers();
        refusals();
        lastCall();
    }

    private static void roots() {
        Edge.test(0, "the squares of the numbers half a unit of its last place below and above it",
                "every number and quarter", () -> {
            for (int number = 1; number <= 32767; number++) {
                Pegfield x = new Pegfield();
                int asked = number;
                Edge.due(true, () -> isBetweenSquares(x.root(asked, false), new BigDecimal(asked)));
                Edge.due(true, () -> isBetweenSquares(x.root(asked, true), new BigDecimal(asked / 4.0)));
            }
        });
        Edge.test(0, "The root of a quarter of a number is half of the number's root, bit by bit", "every number", () -> {
            for (int number = 0; number <= 32767; number++) {
                Pegfield x = new Pegfield();
                int asked = number;
                Edge.due(x.root(number, false), () -> 2 * x.root(asked, true));
            }
        });
        Edge.test(0, "roots rise strictly with their numbers", "each number and the next one", () -> {
            for (int number = 1; number <= 32767; number++) {
                Pegfield x = new Pegfield();
                int asked = number;
                Edge.due(true, () -> x.root(asked, false) > x.root(asked - 1, false));
                Edge.due(true, () -> x.root(asked, true) > x.root(asked - 1, true));
            }
        });
    }

    private static boolean isBetweenSquares(double root, BigDecimal number) {
        BigDecimal half = new BigDecimal(StrictMath.ulp(root) / 2);
        BigDecimal below = new BigDecimal(root).subtract(half);
        BigDecimal above = new BigDecimal(root).add(half);
        return below.multiply(below).compareTo(number) < 0 && above.multiply(above).compareTo(number) > 0;
    }

    private static void stretches() {
        int[][] legs = {{0, 0}, {0, 1}, {1, 1}, {1, 90}, {0, 90}, {89, 90}, {90, 90}};
        for (int[] two : legs) {
            String what = "legs " + two[0] + " and " + two[1];
            Edge.test(0, "in whatever order its two legs are told, and with whatever signs", what, () -> {
                int want = Exact.grains(two[0], two[1], false);
                for (int way = 0; way < 8; way++) {
                    int one = (way & 1) == 0 ? two[0] : -two[0];
                    int other = (way & 2) == 0 ? two[1] : -two[1];
                    Pegfield x = (way & 4) == 0 ? Fields.legs(one, other, false) : Fields.legs(other, one, false);
                    Edge.due(want, () -> x.stretch(0, 1));
                    Edge.due(want, () -> x.stretch(1, 0));
                }
            });
            Edge.answers(0, "it is doubled, bit by bit", what, Exact.grains(two[0], two[1], true),
                    () -> Fields.legs(two[0], two[1], true), x -> x.stretch(0, 1));
        }
        Edge.test(0, "times a quarter, or half a rod if the field is widened", "one place, both widths", () -> {
            Edge.due(16384, () -> Fields.legs(1, 0, false).stretch(0, 1));
            Edge.due(32768, () -> Fields.legs(1, 0, true).stretch(0, 1));
        });
        Edge.test(0, "no way by a third peg is shorter than the straight one by more than one grain",
                "shorter by one grain", () -> {
            Pegfield x = aslant();
            Edge.due(1, () -> x.stretch(0, 2) - x.stretch(0, 1) - x.stretch(1, 2));
        });
    }

    /** Three pegs in a row, aslant: its two halves are rounded down, the whole of it is rounded up. */
    static Pegfield aslant() {
        Pegfield x = new Pegfield();
        x.put(0, 4, 4);
        x.put(1, 5, 5);
        x.put(2, 6, 6);
        return x;
    }

    private static void places() {
        int[][] corners = {{0, 0}, {90, 0}, {0, 90}, {90, 90}};
        for (int[] at : corners) {
            Edge.answers(0, "numbered 0 to 90 across, and 0 to 90 up", "corner " + at[0] + "/" + at[1],
                    at[1] * 91 + at[0], Fields::fresh, x -> x.put(5, at[0], at[1]) ? x.placeOf(5) : -1);
        }
        Edge.test(0, "The field has 91 by 91 places", "a peg at each", () -> {
            for (int up = 0; up <= 90; up++) {
                Pegfield x = new Pegfield();
                for (int across = 0; across <= 90; across++) {
                    x.put(0, across, up);
                    Edge.due(up * 91 + across, () -> x.placeOf(0));
                }
            }
        });
        Edge.test(0, "Several pegs can stand at one place.", "all twelve", () -> {
            Pegfield x = Fields.atOnePlace(12);
            Edge.due(12, x::count);
            for (int peg = 0; peg < 12; peg++) {
                int asked = peg;
                Edge.due(41 * 91 + 40, () -> x.placeOf(asked));
            }
        });
    }

    private static void pegs() {
        for (int peg = 0; peg < 12; peg++) {
            int asked = peg;
            Edge.answers(0, "twelve pegs, 0 to 11, none of which stand at first", "peg " + peg, false,
                    Fields::fresh, x -> x.isThere(asked));
        }
        Edge.test(0, "It has room for twelve pegs", "all twelve, one after the other", () -> {
            Pegfield x = new Pegfield();
            for (int peg = 11; peg >= 0; peg--) {
                int asked = peg;
                Edge.due(true, () -> x.put(asked, asked, 90 - asked));
                Edge.due(12 - asked, x::count);
            }
            for (int peg = 0; peg < 12; peg++) {
                int asked = peg;
                Edge.due((90 - peg) * 91 + peg, () -> x.placeOf(asked));
            }
        });
        Edge.answers(0, "it is not widened at first", "widen(true)", true, Fields::fresh, x -> x.widen(true));
    }

    private static void ring() {
        Edge.answers(0, "at most twelve, empty at first", "empty", Check.OUT, Fields::fresh, x -> x.ringAt(0));
        Edge.test(0, "at most twelve, empty at first", "full", () -> {
            Pegfield x = Fields.full();
            Edge.due(11, () -> x.ringAt(11));
            Edge.due(Check.STATE, () -> x.join(0));
        });
        Edge.test(0, "A peg can stand in it several times.", "one twelve times", () -> {
            Pegfield x = Fields.one();
            for (int number = 1; number <= 12; number++) {
                int due = number;
                Edge.due(due, () -> x.join(6));
                Edge.due(6, () -> x.ringAt(due - 1));
            }
        });
        Edge.test(0, "from the last one to the first one", "three, with a long way back", () -> {
            Pegfield x = new Pegfield();
            x.put(0, 0, 0);
            x.put(1, 1, 0);
            x.put(2, 90, 0);
            for (int peg = 0; peg < 3; peg++) {
                x.join(peg);
            }
            Edge.due(16384 * (1 + 89 + 90), x::around);
        });
    }

    private static void numbers() {
        for (int number : new int[] {0, 1, 32766, 32767}) {
            String words = "whole numbers from 0 to 32,767, or quarters of these";
            Edge.answers(0, words, "" + number, StrictMath.sqrt(number), Fields::fresh, x -> x.root(number, false));
            Edge.answers(0, words, "a quarter of " + number, StrictMath.sqrt(number / 4.0), Fields::fresh,
                    x -> x.root(number, true));
        }
    }

    private static void refusals() {
        Edge.test(0, "A method that throws an exception changes nothing.", "all calls that can throw, in one run", () -> {
            Pegfield x = Fields.joined();
            String before = Edge.state(x);
            Edge.due(Check.ARGUMENT, () -> x.put(0, 3, 91));
            Edge.due(Check.STATE, () -> EdgesOfPegs.taken(x, 0));
            Edge.due(Check.ARGUMENT, () -> x.step(0, 'N'));
            Edge.due(Check.OUT, () -> x.isThere(12));
            Edge.due(Check.NONE, () -> x.placeOf(3));
            Edge.due(Check.NONE, () -> x.nearest(3));
            Edge.due(Check.ARGUMENT, () -> x.isIn(0, 1, 32768, true));
            Edge.due(Check.ARGUMENT, () -> x.between(9, -1, false));
            Edge.due(Check.NONE, () -> x.join(3));
            Edge.due(Check.OUT, () -> x.ringAt(3));
            Edge.due(before, () -> Edge.state(x));
            Edge.due(4, () -> x.join(0));
        });
        String first = "If several exceptions apply, the one that is documented first is thrown.";
        Edge.answers(0, first, "put, all wrong", Check.OUT, Fields::fresh, x -> x.put(12, -1, 91));
        Edge.answers(0, first, "step, all wrong", Check.OUT, Fields::fresh, x -> x.step(12, 'x'));
        Edge.answers(0, first, "step, none and no way", Check.NONE, Fields::fresh, x -> x.step(0, 'x'));
        Edge.answers(0, first, "isIn, all wrong", Check.OUT, Fields::fresh, x -> x.isIn(0, 12, -1, false));
        Edge.answers(0, first, "isIn, none and no number", Check.NONE, Fields::one, x -> x.isIn(6, 0, -1, false));
        Edge.answers(0, first, "isStraight, none and no peg", Check.OUT, Fields::fresh, x -> x.isStraight(0, 1, 12));
        Edge.answers(0, first, "join, full, no peg", Check.OUT, Fields::full, x -> x.join(12));
        Edge.test(0, first, "join, full, none", () -> {
            Pegfield x = new Pegfield();
            x.put(0, 0, 0);
            for (int number = 0; number < 12; number++) {
                x.join(0);
            }
            Edge.due(Check.NONE, () -> x.join(1));
        });
    }

    /** The document gives no words of its own to a call's number, but for the most that there can be. */
    private static void lastCall() {
        Edge.test(0, "The field has 91 by 91 places", "up to the 512th call of an object", () -> {
            Pegfield x = new Pegfield();
            x.put(11, 0, 7);
            for (int call = 2; call <= 511; call++) {
                boolean isOn = call % 92 != 0;
                x.step(11, isOn ? 'e' : 's');
            }
            Edge.due((7 - 5) * 91 + 90, () -> x.placeOf(11));
        });
        Edge.test(0, "A ring is a row of pegs", "joined and taken off up to the 512th call", () -> {
            Pegfield x = new Pegfield();
            x.put(0, 1, 1);
            for (int call = 2; call <= 511; call += 2) {
                Edge.due(1, () -> x.join(0));
                Edge.due(0, x::unjoin);
            }
            Edge.due(Check.STATE, x::unjoin);
        });
    }
}
