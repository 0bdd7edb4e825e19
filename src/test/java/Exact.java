import java.math.BigInteger;

/** What is due by exact whole numbers alone, without a root or a hypotenuse of the library. */
final class Exact {
    private Exact() {
    }

    /** The nearest whole number of grains of the root of some sixteenths. */
    static int grains(long sixteenths) {
        BigInteger halves = BigInteger.valueOf(sixteenths).shiftLeft(30).sqrt();
        return halves.add(BigInteger.ONE).shiftRight(1).intValue();
    }

    /** The grains of a stretch whose legs are told in places. */
    static int grains(int legAcross, int legUp, boolean isWide) {
        return grains((isWide ? 4L : 1L) * (legAcross * legAcross + legUp * legUp));
    }
}
