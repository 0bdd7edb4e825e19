import java.util.NoSuchElementException;

/**
 * A field of pegs, measured by roots and hypotenuses as StrictMath gives them.
 *
 * <p>Every number whose root is needed here is a whole number of sixteenths: a number is 16 of them,
 * a quarter of one is 4, and the legs of a stretch are whole quarters of a rod. So all roots are taken
 * from an int that counts sixteenths. The sum of the squares of two legs is exact in it, and in the
 * library's hypotenuse as well (legs that short lose no bit there), so that this is the same double as
 * the root of that sum.
 */
public final class Pegfield {
    private static final int PEGS = 12;
    private static final int RING_ROOM = 12;
    private static final int PLACES = 91;
    private static final int NO_PEG = -1;
    private static final int GREATEST_NUMBER = 32767;

    /** Sixteenths have up to 20 bits: ten pairs of them, the highest one with this number. */
    private static final int HIGHEST_PAIR = 9;

    /** A grain is 2^-16 rods and a sixteenth's root is 2^-2, so one binary place more than 14 tells halves. */
    private static final int HALF_GRAIN_PLACES = 15;

    private static final int FRACTION_BITS = 52;
    private static final long HIDDEN_BIT = 1L << FRACTION_BITS;
    private static final int EXPONENT_BIAS = 1023;

    private static final int LOW_BITS = 27;
    private static final long LOW_MASK = (1L << LOW_BITS) - 1;

    private final boolean[] standing;
    private final int[] acrossOf;
    private final int[] upOf;
    private final int[] ring;
    private int ringSize;
    private boolean wide;

    /** Creates a field without pegs, not widened, with an empty ring. */
    public Pegfield() {
        standing = new boolean[PEGS];
        acrossOf = new int[PEGS];
        upOf = new int[PEGS];
        ring = new int[RING_ROOM];
        ringSize = 0;
        wide = false;
    }

    // ---- pegs ----

    /** Sets a peg, or puts it to another place; tells whether it did not stand. */
    public boolean put(int peg, int across, int up) throws IndexOutOfBoundsException, IllegalArgumentException {
        requirePeg(peg);
        if (!isPlace(across) || !isPlace(up)) {
            throw new IllegalArgumentException("no such place");
        }
        boolean isNew = !stands(peg);
        moveTo(peg, across, up);
        return isNew;
    }

    /** Takes a peg away. */
    public void take(int peg) throws IndexOutOfBoundsException, NoSuchElementException, IllegalStateException {
        requirePeg(peg);
        requireStanding(peg);
        if (isInRing(peg)) {
            throw new IllegalStateException("the peg stands in the ring");
        }
        if (isPeg(peg)) {
            standing[peg] = false;
        }
    }

    /** Puts a peg one place on; false if there is no place. */
    public boolean step(int peg, char way)
            throws IndexOutOfBoundsException, NoSuchElementException, IllegalArgumentException {
        requirePeg(peg);
        requireStanding(peg);
        if (way != 'n' && way != 's' && way != 'e' && way != 'w') {
            throw new IllegalArgumentException("no such way");
        }
        int across = across(peg) + (way == 'e' ? 1 : way == 'w' ? -1 : 0);
        int up = up(peg) + (way == 'n' ? 1 : way == 's' ? -1 : 0);
        if (!isPlace(across) || !isPlace(up)) {
            return false;
        }
        moveTo(peg, across, up);
        return true;
    }

    /** Tells whether a peg stands. */
    public boolean isThere(int peg) throws IndexOutOfBoundsException {
        requirePeg(peg);
        return stands(peg);
    }

    /** Returns the place of a peg: its place up times 91, plus its place across. */
    public int placeOf(int peg) throws IndexOutOfBoundsException, NoSuchElementException {
        requirePeg(peg);
        requireStanding(peg);
        return up(peg) * PLACES + across(peg);
    }

    /** Returns how many pegs stand. */
    public int count() {
        int number = 0;
        for (int peg = 0; peg < PEGS; peg++) {
            if (stands(peg)) {
                number++;
            }
        }
        return number;
    }

    /** Widens the field to twice its size, or makes it what it was; tells whether it was the other way. */
    public boolean widen(boolean isWide) {
        boolean isOther = wide != isWide;
        wide = isWide;
        return isOther;
    }

    // ---- stretches ----

    /** Returns the grains of the stretch between two pegs. */
    public int stretch(int from, int to) throws IndexOutOfBoundsException, NoSuchElementException {
        requireTwo(from, to);
        return stretchGrains(from, to);
    }

    /** Checks that a stretch is the same double in all eight ways to tell its legs. */
    public boolean isSteady(int from, int to) throws IndexOutOfBoundsException, NoSuchElementException {
        requireTwo(from, to);
        int legAcross = across(to) - across(from);
        int legUp = up(to) - up(from);
        long bits = hypotenuseBits(legAcross, legUp, wide);
        for (int signs = 0; signs < 4; signs++) {
            int one = (signs & 1) == 0 ? legAcross : -legAcross;
            int other = (signs & 2) == 0 ? legUp : -legUp;
            if (hypotenuseBits(one, other, wide) != bits || hypotenuseBits(other, one, wide) != bits) {
                return false;
            }
        }
        return true;
    }

    /** Checks that a stretch is doubled as the field is widened. */
    public boolean isDoubled(int from, int to) throws IndexOutOfBoundsException, NoSuchElementException {
        requireTwo(from, to);
        int legAcross = across(to) - across(from);
        int legUp = up(to) - up(from);
        return hypotenuseBits(legAcross, legUp, true) == twice(hypotenuseBits(legAcross, legUp, false));
    }

    /** Checks a stretch by the exact squares of its neighbours. */
    public boolean isClose(int from, int to) throws IndexOutOfBoundsException, NoSuchElementException {
        requireTwo(from, to);
        int legAcross = across(to) - across(from);
        int legUp = up(to) - up(from);
        long bits = hypotenuseBits(legAcross, legUp, wide);
        int sixteenths = squareSum(legAcross, legUp, wide);
        if (sixteenths == 0 || bits == 0) {
            return sixteenths == 0 && bits == 0;
        }
        long units = unitsOf(bits);
        int places = placesAfterPoint(bits);
        return compareSquare(units - 1, places, sixteenths) <= 0
                && compareSquare(units + 1, places, sixteenths) >= 0;
    }

    /** Checks that a way by a third peg is not shorter by more than one grain. */
    public boolean isStraight(int from, int by, int to) throws IndexOutOfBoundsException, NoSuchElementException {
        requirePeg(from);
        requirePeg(by);
        requirePeg(to);
        requireStanding(from);
        requireStanding(by);
        requireStanding(to);
        return stretchGrains(from, to) <= stretchGrains(from, by) + stretchGrains(by, to) + 1;
    }

    /** Returns the peg that is the nearest to a peg, by grains, the lowest of several. */
    public int nearest(int peg) throws IndexOutOfBoundsException, NoSuchElementException, IllegalStateException {
        requirePeg(peg);
        requireStanding(peg);
        int other = nearestOther(peg);
        if (other == NO_PEG) {
            throw new IllegalStateException("no other peg stands");
        }
        return other;
    }

    /** Counts the pairs of pegs that are nearer to each other than two pegs are, by grains. */
    public int rank(int from, int to) throws IndexOutOfBoundsException, NoSuchElementException {
        requireTwo(from, to);
        int grains = stretchGrains(from, to);
        int pairs = 0;
        for (int low = 0; low < PEGS; low++) {
            for (int high = low + 1; high < PEGS; high++) {
                if (stands(low) && stands(high) && stretchGrains(low, high) < grains) {
                    pairs++;
                }
            }
        }
        return pairs;
    }

    /** Tells whether a peg stands in a circle about another one, by grains. */
    public boolean isIn(int peg, int middle, int number, boolean isQuarter)
            throws IndexOutOfBoundsException, NoSuchElementException, IllegalArgumentException {
        requireTwo(peg, middle);
        requireNumber(number);
        return stretchGrains(peg, middle) <= grainsOfRoot(sixteenthsOf(number, isQuarter));
    }

    // ---- roots ----

    /** Returns the double nearest to a root. */
    public double root(int number, boolean isQuarter) throws IllegalArgumentException {
        requireNumber(number);
        return doubleOf(bitsOfRoot(sixteenthsOf(number, isQuarter)));
    }

    /** Returns the bits of the double nearest to a root. */
    public long rootBits(int number, boolean isQuarter) throws IllegalArgumentException {
        requireNumber(number);
        return bitsOfRoot(sixteenthsOf(number, isQuarter));
    }

    /** Returns a root in grains. */
    public int rootGrains(int number, boolean isQuarter) throws IllegalArgumentException {
        requireNumber(number);
        return grainsOfRoot(sixteenthsOf(number, isQuarter));
    }

    /** Returns the whole part of a root. */
    public int wholeRoot(int number) throws IllegalArgumentException {
        requireNumber(number);
        return wholePart(number);
    }

    /** Checks a root by the exact squares of the numbers half a unit of its last place off. */
    public boolean isNearest(int number, boolean isQuarter) throws IllegalArgumentException {
        requireNumber(number);
        int sixteenths = sixteenthsOf(number, isQuarter);
        long bits = bitsOfRoot(sixteenths);
        if (sixteenths == 0 || bits == 0) {
            return sixteenths == 0 && bits == 0;
        }
        long halfUnits = 2 * unitsOf(bits);
        int places = placesAfterPoint(bits) + 1;
        return compareSquare(halfUnits - 1, places, sixteenths) < 0
                && compareSquare(halfUnits + 1, places, sixteenths) > 0;
    }

    /** Checks that the root of a quarter of a number is half of the root of the number. */
    public boolean isHalved(int number) throws IllegalArgumentException {
        requireNumber(number);
        return twice(bitsOfRoot(sixteenthsOf(number, true))) == bitsOfRoot(sixteenthsOf(number, false));
    }

    /** Counts the whole numbers above one root, and not above another one. */
    public int between(int low, int high, boolean isQuarter) throws IllegalArgumentException {
        requireNumber(low);
        requireNumber(high);
        if (high <= low) {
            return 0;
        }
        // A whole number is not above the root of a quarter just when it is not above that of its whole part.
        return isQuarter ? wholePart(high >> 2) - wholePart(low >> 2) : wholePart(high) - wholePart(low);
    }

    // ---- ring ----

    /** Puts a peg at the end of the ring; returns how many the ring has then. */
    public int join(int peg) throws IndexOutOfBoundsException, NoSuchElementException, IllegalStateException {
        requirePeg(peg);
        requireStanding(peg);
        if (ringSize < 0 || ringSize >= RING_ROOM) {
            throw new IllegalStateException("the ring is full");
        }
        ring[ringSize] = peg;
        ringSize++;
        return ringSize;
    }

    /** Takes the last one off the ring; returns its number. */
    public int unjoin() throws IllegalStateException {
        if (ringSize <= 0) {
            throw new IllegalStateException("the ring is empty");
        }
        ringSize--;
        return pegInRing(ringSize);
    }

    /** Returns a peg of the ring. */
    public int ringAt(int place) throws IndexOutOfBoundsException {
        if (place < 0 || place >= ringSize) {
            throw new IndexOutOfBoundsException("no such place in the ring");
        }
        return pegInRing(place);
    }

    /** Returns the sum of the grains of the ring's stretches. */
    public int around() {
        int grains = 0;
        for (int place = 0; place < ringSize; place++) {
            grains += stretchGrains(pegInRing(place), pegInRing(placeAfter(place)));
        }
        return grains;
    }

    /** Returns twice the area that the ring goes around, in squares of places. */
    public int doubleArea() {
        int area = 0;
        for (int place = 0; place < ringSize; place++) {
            int first = pegInRing(place);
            int second = pegInRing(placeAfter(place));
            area += across(first) * up(second) - across(second) * up(first);
        }
        return area;
    }

    /** Returns the bits of the side of a square as large as twice the ring's area. */
    public long sideBits() throws IllegalStateException {
        int area = Math.abs(doubleArea());
        if (!isNumber(area)) {
            throw new IllegalStateException("the area is too large");
        }
        return bitsOfRoot(sixteenthsOf(area, false));
    }

    // ---- all ----

    /** Returns a sum over all. */
    public long checksum() {
        long sum = 7;
        for (int peg = 0; peg < PEGS; peg++) {
            if (stands(peg)) {
                sum = 31 * sum + peg + 1;
                sum = 31 * sum + up(peg) * PLACES + across(peg);
                sum = 31 * sum + nearestOther(peg);
            }
        }
        for (int place = 0; place < ringSize; place++) {
            sum = 31 * sum + pegInRing(place);
        }
        sum = 31 * sum + around();
        return 31 * sum + (wide ? 1 : 0);
    }

    /** Checks the theorem for the pegs and the ring that there are. */
    public boolean isSound() {
        return arePairsSound() && areThreesSound() && isAreaSound();
    }

    // ---- what isSound looks at ----

    private boolean arePairsSound() {
        for (int from = 0; from < PEGS; from++) {
            for (int to = from + 1; to < PEGS; to++) {
                if (stands(from) && stands(to)
                        && !(isSteady(from, to) && isDoubled(from, to) && isClose(from, to))) {
                    return false;
                }
            }
        }
        return true;
    }

    private boolean areThreesSound() {
        for (int from = 0; from < PEGS; from++) {
            // A way back has the stretches of the way there, so each two ends are looked at once.
            for (int to = from + 1; to < PEGS; to++) {
                if (stands(from) && stands(to) && !isStraightByAll(from, to)) {
                    return false;
                }
            }
        }
        return true;
    }

    private boolean isStraightByAll(int from, int to) {
        for (int by = 0; by < PEGS; by++) {
            if (by != from && by != to && stands(by) && !isStraight(from, by, to)) {
                return false;
            }
        }
        return true;
    }

    private boolean isAreaSound() {
        int area = Math.abs(doubleArea());
        if (!isNumber(area)) {
            return true;
        }
        if (!isRootSound(area)) {
            return false;
        }
        return area == 0 || isRootSound(area - 1) && root(area, false) > root(area - 1, false);
    }

    private boolean isRootSound(int number) {
        return isNearest(number, false) && isNearest(number, true) && isHalved(number);
    }

    // ---- what a call asks for ----

    private static boolean isPeg(int peg) {
        return peg >= 0 && peg < PEGS;
    }

    private static boolean isPlace(int place) {
        return place >= 0 && place < PLACES;
    }

    private static boolean isNumber(int number) {
        return number >= 0 && number <= GREATEST_NUMBER;
    }

    private static void requirePeg(int peg) {
        if (!isPeg(peg)) {
            throw new IndexOutOfBoundsException("no such peg");
        }
    }

    private void requireStanding(int peg) {
        if (!stands(peg)) {
            throw new NoSuchElementException("the peg does not stand");
        }
    }

    private void requireTwo(int from, int to) {
        requirePeg(from);
        requirePeg(to);
        requireStanding(from);
        requireStanding(to);
    }

    private static void requireNumber(int number) {
        if (!isNumber(number)) {
            throw new IllegalArgumentException("no such number");
        }
    }

    // ---- pegs and ring, every index looked at ----

    private boolean stands(int peg) {
        return isPeg(peg) && standing[peg];
    }

    private int across(int peg) {
        return isPeg(peg) ? acrossOf[peg] : 0;
    }

    private int up(int peg) {
        return isPeg(peg) ? upOf[peg] : 0;
    }

    private void moveTo(int peg, int across, int up) {
        if (isPeg(peg)) {
            standing[peg] = true;
            acrossOf[peg] = across;
            upOf[peg] = up;
        }
    }

    private int pegInRing(int place) {
        return place >= 0 && place < RING_ROOM ? ring[place] : NO_PEG;
    }

    private int placeAfter(int place) {
        return place + 1 < ringSize ? place + 1 : 0;
    }

    private boolean isInRing(int peg) {
        for (int place = 0; place < ringSize; place++) {
            if (pegInRing(place) == peg) {
                return true;
            }
        }
        return false;
    }

    private int nearestOther(int peg) {
        int best = NO_PEG;
        int bestGrains = 0;
        for (int other = 0; other < PEGS; other++) {
            if (other != peg && stands(other)) {
                int grains = stretchGrains(peg, other);
                if (best == NO_PEG || grains < bestGrains) {
                    best = other;
                    bestGrains = grains;
                }
            }
        }
        return best;
    }

    private int stretchGrains(int from, int to) {
        return grainsOfRoot(squareSum(across(to) - across(from), up(to) - up(from), wide));
    }

    // ---- roots of sixteenths ----

    private static int sixteenthsOf(int number, boolean isQuarter) {
        return isQuarter ? 4 * number : 16 * number;
    }

    /** The sum of the squares of two legs told in places, as sixteenths of a square rod. */
    private static int squareSum(int oneLeg, int otherLeg, boolean isWide) {
        int sum = oneLeg * oneLeg + otherLeg * otherLeg;
        return isWide ? 4 * sum : sum;
    }

    private static long hypotenuseBits(int oneLeg, int otherLeg, boolean isWide) {
        return bitsOfRoot(squareSum(oneLeg, otherLeg, isWide));
    }

    private static int wholePart(int number) {
        return (int) rootDigits(number, 0);
    }

    private static int grainsOfRoot(int sixteenths) {
        return (int) ((rootDigits(sixteenths, HALF_GRAIN_PLACES) + 1) >> 1);
    }

    /**
     * The whole part of the root of a number below 2^20, times 2^places, found digit by digit: exact, and
     * within a long as long as it has at most 60 bits.
     */
    private static long rootDigits(int number, int places) {
        long digits = 0;
        long rest = 0;
        for (int pair = HIGHEST_PAIR; pair >= -places; pair--) {
            rest = (rest << 2) + (pair >= 0 ? (number >> (2 * pair)) & 3 : 0);
            long next = (digits << 2) + 1;
            digits <<= 1;
            if (rest >= next) {
                rest -= next;
                digits++;
            }
        }
        return digits;
    }

    /** The bits of the double nearest to the root of some sixteenths. */
    private static long bitsOfRoot(int sixteenths) {
        if (sixteenths <= 0) {
            return 0;
        }
        // The root of the sixteenths' count starts at this power of two; the rod's root is a quarter of it.
        int power = highestPair(sixteenths);
        // One digit more than a double has says where to round: no root of a whole number lies just between.
        long units = (rootDigits(sixteenths, FRACTION_BITS + 1 - power) + 1) >> 1;
        long exponent = EXPONENT_BIAS + power - 2;
        return (exponent << FRACTION_BITS) + (units - HIDDEN_BIT);
    }

    private static int highestPair(int number) {
        int pair = HIGHEST_PAIR;
        while (pair > 0 && (number >> (2 * pair)) == 0) {
            pair--;
        }
        return pair;
    }

    // ---- doubles by their bits: 0, or from 2^-2 to below 2^8 ----

    /** How many units of its last place a double has. */
    private static long unitsOf(long bits) {
        return (bits & (HIDDEN_BIT - 1)) | HIDDEN_BIT;
    }

    /** How many binary places after the point the unit of a double's last place has. */
    private static int placesAfterPoint(long bits) {
        return FRACTION_BITS + EXPONENT_BIAS - (int) (bits >>> FRACTION_BITS);
    }

    private static long twice(long bits) {
        return bits == 0 ? 0 : bits + HIDDEN_BIT;
    }

    private static double doubleOf(long bits) {
        if (bits == 0) {
            return 0.0;
        }
        // Both are exact, as the units are below 2^53 and their number in a whole is a power of two.
        double unitsInOne = (double) (1L << placesAfterPoint(bits));
        return unitsInOne >= 1.0 ? (double) unitsOf(bits) / unitsInOne : 0.0;
    }

    /**
     * Compares the exact square of units * 2^-places with some sixteenths: below 0, 0 or above 0. The units
     * are below 2^54 and the places from 45 to 55, so that the square and the sixteenths, both told
     * in units of 2^(-2 * places), are held in a high part of whole 2^54 and a low part below that.
     */
    private static int compareSquare(long units, int places, int sixteenths) {
        long high = units >> LOW_BITS;
        long low = units & LOW_MASK;
        long cross = 2 * high * low;
        long lowPart = low * low + ((cross & LOW_MASK) << LOW_BITS);
        long highPart = high * high + (cross >> LOW_BITS) + (lowPart >> (2 * LOW_BITS));
        boolean hasLowPart = (lowPart & ((1L << (2 * LOW_BITS)) - 1)) != 0;
        long wanted = (long) sixteenths << (2 * places - 4 - 2 * LOW_BITS);
        if (highPart != wanted) {
            return highPart < wanted ? -1 : 1;
        }
        return hasLowPart ? 1 : 0;
    }
}
