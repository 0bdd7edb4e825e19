import java.math.BigInteger;

/** Boundary cases of promises 30 and 31. */
final class EdgesOfAll {
    private static final BigInteger FACTOR = BigInteger.valueOf(31);

    private EdgesOfAll() {
    }

    static void run() {
        checksum();
        checksumGoesRound();
        checksumOfWrongCalls();
        isSound();
        isSoundByArea();
    }

    private static void checksum() {
        Edge.answers(30, "Returns 7 at first", "a new field", 7L * 31 * 31, Fields::fresh, x -> x.checksum());
        String pegs = "for each peg that stands, by number, 31 times itself plus the number plus 1";
        Edge.test(30, pegs, "the lowest peg at the lowest place, and the highest at the highest", () -> {
            Pegfield x = new Pegfield();
            x.put(11, 90, 90);
            x.put(0, 0, 0);
            long sum = ((7L * 31 + 1) * 31 + 0) * 31 + 11;
            sum = ((sum * 31 + 12) * 31 + 8280) * 31 + 0;
            Edge.due(sum * 31 * 31, x::checksum);
        });
        Edge.answers(30, "or plus -1 if no other one stands", "one alone", (((7L * 31 + 7) * 31 + 92) * 31 - 1) * 31 * 31,
                Fields::one, x -> x.checksum());
        Edge.answers(30, "or plus -1 if no other one stands", "the others taken",
                (((7L * 31 + 1) * 31 + 0) * 31 - 1) * 31 * 31,
                () -> EdgesOfPegs.without(EdgesOfPegs.without(Fields.three(), 2), 1), x -> x.checksum());
        String ring = "then likewise each number of the ring in turn, around()";
        Edge.test(30, ring, "from empty to full", () -> {
            Pegfield x = Fields.one();
            BigInteger[] sum = {BigInteger.valueOf(((7L * 31 + 7) * 31 + 92) * 31 - 1)};
            for (int number = 1; number <= 12; number++) {
                x.join(6);
                sum[0] = sum[0].multiply(FACTOR).add(BigInteger.valueOf(6));
                Edge.due(sum[0].multiply(FACTOR).multiply(FACTOR).longValue(), x::checksum);
            }
        });
        Edge.test(30, "and 1 if the field is widened, otherwise 0", "both ways", () -> {
            Pegfield x = Fields.one();
            long narrow = x.checksum();
            x.widen(true);
            Edge.due(narrow + 1, x::checksum);
            x.widen(false);
            Edge.due(narrow, x::checksum);
        });
        Edge.onlyTells(30, ring, x -> x.checksum());
    }

    /** The sum as the document tells it, before it goes round. */
    private static BigInteger sum(Pegfield x) {
        BigInteger sum = BigInteger.valueOf(7);
        for (int peg = 0; peg < 12; peg++) {
            if (x.isThere(peg)) {
                sum = sum.multiply(FACTOR).add(BigInteger.valueOf(peg + 1));
                sum = sum.multiply(FACTOR).add(BigInteger.valueOf(x.placeOf(peg)));
                sum = sum.multiply(FACTOR).add(BigInteger.valueOf(x.count() == 1 ? -1 : x.nearest(peg)));
            }
        }
        for (int place = 0; place < 12; place++) {
            int here = place;
            if (!Check.answer(() -> x.ringAt(here)).equals(Check.OUT)) {
                sum = sum.multiply(FACTOR).add(BigInteger.valueOf(x.ringAt(here)));
            }
        }
        sum = sum.multiply(FACTOR).add(BigInteger.valueOf(x.around()));
        boolean wasNarrow = x.widen(true);
        x.widen(!wasNarrow);
        return sum.multiply(FACTOR).add(wasNarrow ? BigInteger.ZERO : BigInteger.ONE);
    }

    private static void checksumGoesRound() {
        String words = "a long that goes round";
        for (int pegs = 1; pegs <= 12; pegs++) {
            int has = pegs;
            Edge.test(30, words, has + " pegs", () -> {
                Pegfield x = new Pegfield();
                for (int peg = 0; peg < has; peg++) {
                    x.put(peg, 90 - peg, 7 * peg);
                    x.join(peg);
                }
                BigInteger sum = sum(x);
                Edge.due(has > 2, () -> sum.bitLength() > 63);
                Edge.due(sum.longValue(), x::checksum);
                x.widen(true);
                Edge.due(sum(x).longValue(), x::checksum);
            });
        }
        Edge.test(30, words, "below 0 and above it", () -> {
            int below = 0;
            int above = 0;
            for (int across = 0; across <= 90; across++) {
                Pegfield x = Fields.full();
                x.put(0, across, across);
                Edge.due(sum(x).longValue(), x::checksum);
                below += x.checksum() < 0 ? 1 : 0;
                above += x.checksum() > 0 ? 1 : 0;
            }
            int[] both = {below, above};
            Edge.due(true, () -> both[0] > 0 && both[1] > 0);
        });
    }

    private static void checksumOfWrongCalls() {
        Edge.test(30, "Returns 7 at first", "refused calls alone", () -> {
            Pegfield x = new Pegfield();
            Edge.due(Check.OUT, () -> x.put(-1, 0, 0));
            Edge.due(Check.ARGUMENT, () -> x.put(0, 0, 91));
            Edge.due(Check.NONE, () -> x.join(0));
            Edge.due(Check.STATE, x::unjoin);
            Edge.due(7L * 31 * 31, x::checksum);
        });
    }

    private static void isSound() {
        String two = "each two pegs that stand, as isSteady(), isDoubled() and isClose()";
        String three = "each three, as isStraight()";
        Edge.answers(31, two, "no pegs", true, Fields::fresh, x -> x.isSound());
        Edge.answers(31, two, "one peg", true, Fields::one, x -> x.isSound());
        Edge.answers(31, two, "two pegs, as far off as can be", true, () -> Fields.legs(90, -90, true), x -> x.isSound());
        Edge.answers(31, two, "two at one place", true, () -> Fields.atOnePlace(2), x -> x.isSound());
        Edge.answers(31, three, "three pegs, shorter by one grain", true, EdgesOfTerms::aslant, x -> x.isSound());
        Edge.answers(31, three, "twelve at one place", true, () -> Fields.atOnePlace(12), x -> x.isSound());
        Edge.answers(31, three, "twelve apart", true, Fields::full, x -> x.isSound());
        Edge.test(31, three, "twelve in a row aslant, both widths", () -> {
            Pegfield x = new Pegfield();
            for (int peg = 0; peg < 12; peg++) {
                x.put(peg, peg, peg);
            }
            Edge.due(true, x::isSound);
            x.widen(true);
            Edge.due(true, x::isSound);
        });
        Edge.onlyTells(31, "Nothing is changed by that.", x -> x.isSound());
        Edge.test(31, "Nothing is changed by that.", "a new field", () -> {
            Pegfield x = new Pegfield();
            String before = Edge.state(x);
            x.isSound();
            Edge.due(before, () -> Edge.state(x));
        });
    }

    private static void isSoundByArea() {
        String greatest = "its sign left out, if it is at most 32,767";
        String least = "the number one less, if that is not below 0";
        for (int area = 32766; area <= 32769; area++) {
            int has = area;
            Edge.answers(31, greatest, "" + area, true, () -> Fields.nearGreatest(has, false), x -> x.isSound());
            Edge.answers(31, greatest, "-" + area, true, () -> Fields.nearGreatest(has, true), x -> x.isSound());
        }
        Edge.answers(31, greatest, "48600", true, () -> Fields.rounds(90, 90, 3), x -> x.isSound());
        for (int area = -2; area <= 2; area++) {
            int has = area;
            Edge.answers(31, least, "" + area, true, () -> Fields.sliver(has), x -> x.isSound());
        }
        Edge.answers(31, least, "an empty ring", true, Fields::three, x -> x.isSound());
    }
}
