import java.math.BigInteger;

/** Every number's root and every two legs' stretch, against StrictMath and exact whole numbers. */
public final class PegfieldTables {
    public static void main(String[] args) {
        for (int number = 0; number <= 32767; number++) {
            numberRoots(number);
        }
        for (int legAcross = 0; legAcross <= 90; legAcross++) {
            for (int legUp = 0; legUp <= 90; legUp++) {
                legs(legAcross, legUp);
            }
        }
        Check.end("PegfieldTables");
    }

    private static void numberRoots(int number) {
        Pegfield x = new Pegfield();
        for (int quarter = 0; quarter < 2; quarter++) {
            boolean isQuarter = quarter == 1;
            double want = StrictMath.sqrt(isQuarter ? number / 4.0 : number);
            String what = (isQuarter ? "a quarter of " : "") + number;
            Check.same("17 " + what, want, x.root(number, isQuarter));
            Check.same("18 " + what, Double.doubleToRawLongBits(want), x.rootBits(number, isQuarter));
            Check.same("19 " + what, Exact.grains(isQuarter ? 4L * number : 16L * number), x.rootGrains(number, isQuarter));
            Check.same("19 by the double, " + what, (int) (want * 65536 + 0.5), x.rootGrains(number, isQuarter));
            Check.same("21 " + what, true, x.isNearest(number, isQuarter));
            Check.same("23 from 0 to " + what, (int) want, x.between(0, number, isQuarter));
            if (number > 0) {
                int one = (int) want - (int) StrictMath.sqrt(isQuarter ? (number - 1) / 4.0 : number - 1);
                Check.same("23 last step to " + what, one, x.between(number - 1, number, isQuarter));
            }
        }
        Check.same("20 " + number, BigInteger.valueOf(number).sqrt().intValue(), x.wholeRoot(number));
        Check.same("22 " + number, true, x.isHalved(number));
    }

    private static void legs(int legAcross, int legUp) {
        Pegfield x = new Pegfield();
        x.put(0, 90 - legAcross, 0);
        x.put(1, 90, legUp);
        x.put(2, 90 - legAcross, legUp);
        x.put(3, 90, 0);
        for (int wide = 0; wide < 2; wide++) {
            x.widen(wide == 1);
            String what = legAcross + "/" + legUp + (wide == 1 ? " wide" : "");
            double rods = wide == 1 ? 0.5 : 0.25;
            int want = (int) (StrictMath.hypot(legAcross * rods, legUp * rods) * 65536 + 0.5);
            long sixteenths = (long) (wide == 1 ? 4 : 1) * (legAcross * legAcross + legUp * legUp);
            Check.same("9 exact " + what, Exact.grains(sixteenths), x.stretch(0, 1));
            Check.same("9 back " + what, want, x.stretch(1, 0));
            Check.same("9 aslant " + what, want, x.stretch(2, 3));
            for (int from = 0; from < 4; from++) {
                int to = from ^ 1;
                Check.same("10 " + what, true, x.isSteady(from, to));
                Check.same("11 " + what, true, x.isDoubled(from, to));
                Check.same("12 " + what, true, x.isClose(from, to));
                Check.same("13 " + what, true, x.isStraight(from, from ^ 2, to));
            }
            Check.same("31 " + what, true, x.isSound());
        }
    }
}
