/** The fields that several tests begin with, each made anew. */
final class Fields {
    /** Twice the area of two rounds about the whole field. */
    private static final int TWO_ROUNDS = 4 * 90 * 90;

    private Fields() {
    }

    static Pegfield fresh() {
        return new Pegfield();
    }

    /** Peg 6 alone. */
    static Pegfield one() {
        Pegfield x = new Pegfield();
        x.put(6, 1, 1);
        return x;
    }

    /** Pegs 0 at 0/0, 1 at 12/16, 2 at 90/90; none else. */
    static Pegfield three() {
        Pegfield x = new Pegfield();
        x.put(0, 0, 0);
        x.put(1, 12, 16);
        x.put(2, 90, 90);
        return x;
    }

    /** The three pegs, in a ring of 1, 0, 1. */
    static Pegfield joined() {
        Pegfield x = three();
        x.join(1);
        x.join(0);
        x.join(1);
        return x;
    }

    /** All twelve pegs, apart from each other, in a ring of all twelve; widened. */
    static Pegfield full() {
        Pegfield x = new Pegfield();
        for (int peg = 0; peg < 12; peg++) {
            x.put(peg, 7 * peg + 3, 90 - peg * peg / 2);
            x.join(peg);
        }
        x.widen(true);
        return x;
    }

    /** Some pegs, from 0 on, all at one place. */
    static Pegfield atOnePlace(int pegs) {
        Pegfield x = new Pegfield();
        for (int peg = 0; peg < pegs; peg++) {
            x.put(peg, 40, 41);
        }
        return x;
    }

    /** Peg 0 and peg 1, with these legs between them. */
    static Pegfield legs(int legAcross, int legUp, boolean isWide) {
        Pegfield x = new Pegfield();
        x.put(0, legAcross < 0 ? 90 : 0, legUp < 0 ? 90 : 0);
        x.put(1, legAcross < 0 ? 90 + legAcross : legAcross, legUp < 0 ? 90 + legUp : legUp);
        x.widen(isWide);
        return x;
    }

    /** A ring whose double area is twice across times up, some times round. */
    static Pegfield rounds(int across, int up, int rounds) {
        Pegfield x = new Pegfield();
        x.put(0, 0, 0);
        x.put(1, across, 0);
        x.put(2, across, up);
        x.put(3, 0, up);
        for (int i = 0; i < 4 * rounds; i++) {
            x.join(i % 4);
        }
        return x;
    }

    /** A ring of three, whose double area is one number from -90 to 90. */
    static Pegfield sliver(int area) {
        Pegfield x = new Pegfield();
        x.put(0, 0, 0);
        x.put(1, 1, 0);
        x.put(2, 0, area < 0 ? -area : area);
        x.join(0);
        x.join(area < 0 ? 2 : 1);
        x.join(area < 0 ? 1 : 2);
        return x;
    }

    /**
     * Two rounds about the whole field, and a triangle that adds what is left up to the double area, which
     * is from 32,760 to 32,850; or all of it backward, so that it has the other sign.
     */
    static Pegfield nearGreatest(int area, boolean isBackward) {
        Pegfield x = rounds(90, 90, 0);
        x.put(4, 90, 450 - (area - TWO_ROUNDS));
        x.put(5, 1, 5);
        int[] ring = {0, 1, 2, 3, 0, 1, 2, 3, 0, 4, 5};
        for (int i = 0; i < ring.length; i++) {
            x.join(ring[isBackward ? ring.length - 1 - i : i]);
        }
        return x;
    }
}
