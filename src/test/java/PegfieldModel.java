import java.util.ArrayList;
import java.util.List;
import java.util.NoSuchElementException;
import java.util.TreeMap;

/** The document once more, told with lists and StrictMath: what the tests measure the class by. */
final class PegfieldModel {
    private final TreeMap<Integer, int[]> pegs = new TreeMap<>();
    private final List<Integer> ring = new ArrayList<>();
    private boolean wide = false;

    private void numbers(int... asked) {
        for (int peg : asked) {
            if (peg < 0 || peg > 11) {
                throw new IndexOutOfBoundsException();
            }
        }
    }

    private void standing(int... asked) {
        numbers(asked);
        for (int peg : asked) {
            if (!pegs.containsKey(peg)) {
                throw new NoSuchElementException();
            }
        }
    }

    private static void argument(boolean holds) {
        if (!holds) {
            throw new IllegalArgumentException();
        }
    }

    private static void state(boolean holds) {
        if (!holds) {
            throw new IllegalStateException();
        }
    }

    private static double value(int number, boolean isQuarter) {
        argument(number >= 0 && number <= 32767);
        return StrictMath.sqrt(isQuarter ? number / 4.0 : number);
    }

    private static int grains(double rods) {
        return (int) (rods * 65536 + 0.5);
    }

    private int grains(int from, int to) {
        int[] a = pegs.get(from);
        int[] b = pegs.get(to);
        double rods = wide ? 0.5 : 0.25;
        return grains(StrictMath.hypot((b[0] - a[0]) * rods, (b[1] - a[1]) * rods));
    }

    boolean put(int peg, int across, int up) {
        numbers(peg);
        argument(across >= 0 && across < 91 && up >= 0 && up < 91);
        return pegs.put(peg, new int[] {across, up}) == null;
    }

    String take(int peg) {
        standing(peg);
        state(!ring.contains(peg));
        pegs.remove(peg);
        return "nothing";
    }

    boolean step(int peg, char way) {
        standing(peg);
        argument("nsew".indexOf(way) >= 0);
        int[] old = pegs.get(peg);
        int[] next = {old[0], old[1]};
        switch (way) {
            case 'n' -> next[1]++;
            case 's' -> next[1]--;
            case 'e' -> next[0]++;
            default -> next[0]--;
        }
        if (next[0] < 0 || next[0] > 90 || next[1] < 0 || next[1] > 90) {
            return false;
        }
        pegs.put(peg, next);
        return true;
    }

    boolean isThere(int peg) {
        numbers(peg);
        return pegs.containsKey(peg);
    }

    int placeOf(int peg) {
        standing(peg);
        return pegs.get(peg)[1] * 91 + pegs.get(peg)[0];
    }

    int count() {
        return pegs.size();
    }

    boolean widen(boolean isWide) {
        boolean was = wide;
        wide = isWide;
        return was != isWide;
    }

    int stretch(int from, int to) {
        standing(from, to);
        return grains(from, to);
    }

    /** What isSteady, isDoubled and isClose answer. */
    boolean holds(int from, int to) {
        standing(from, to);
        return true;
    }

    boolean isStraight(int from, int by, int to) {
        standing(from, by, to);
        return grains(from, to) <= grains(from, by) + grains(by, to) + 1;
    }

    int nearest(int peg) {
        standing(peg);
        state(pegs.size() > 1);
        int best = -1;
        for (int other : pegs.descendingKeySet()) {
            if (other != peg && (best < 0 || grains(peg, other) <= grains(peg, best))) {
                best = other;
            }
        }
        return best;
    }

    int rank(int from, int to) {
        standing(from, to);
        int both = 0;
        for (int one : pegs.keySet()) {
            for (int other : pegs.keySet()) {
                if (one != other && grains(one, other) < grains(from, to)) {
                    both++;
                }
            }
        }
        return both / 2;
    }

    boolean isIn(int peg, int middle, int number, boolean isQuarter) {
        standing(peg, middle);
        return grains(peg, middle) <= grains(value(number, isQuarter));
    }

    double root(int number, boolean isQuarter) {
        return value(number, isQuarter);
    }

    long rootBits(int number, boolean isQuarter) {
        return Double.doubleToRawLongBits(value(number, isQuarter));
    }

    int rootGrains(int number, boolean isQuarter) {
        return grains(value(number, isQuarter));
    }

    int wholeRoot(int number) {
        return (int) value(number, false);
    }

    /** What isNearest and isHalved answer. */
    boolean holdsFor(int number) {
        value(number, false);
        return true;
    }

    int between(int low, int high, boolean isQuarter) {
        double from = value(low, isQuarter);
        double to = value(high, isQuarter);
        int number = 0;
        for (int whole = 0; whole <= 200; whole++) {
            if (whole > from && whole <= to) {
                number++;
            }
        }
        return number;
    }

    int join(int peg) {
        standing(peg);
        state(ring.size() < 12);
        ring.add(peg);
        return ring.size();
    }

    int unjoin() {
        state(!ring.isEmpty());
        return ring.remove(ring.size() - 1);
    }

    int ringAt(int place) {
        if (place < 0 || place >= ring.size()) {
            throw new IndexOutOfBoundsException();
        }
        return ring.get(place);
    }

    int around() {
        int sum = 0;
        for (int i = 0; i < ring.size(); i++) {
            sum += grains(ring.get(i), ring.get((i + 1) % ring.size()));
        }
        return sum;
    }

    int doubleArea() {
        int sum = 0;
        for (int i = 0; i < ring.size(); i++) {
            int[] a = pegs.get(ring.get(i));
            int[] b = pegs.get(ring.get((i + 1) % ring.size()));
            sum += a[0] * b[1] - b[0] * a[1];
        }
        return sum;
    }

    long sideBits() {
        int area = Math.abs(doubleArea());
        state(area <= 32767);
        return rootBits(area, false);
    }

    long checksum() {
        long sum = 7;
        for (int peg : pegs.keySet()) {
            sum = sum * 31 + peg + 1;
            sum = sum * 31 + placeOf(peg);
            sum = sum * 31 + (pegs.size() > 1 ? nearest(peg) : -1);
        }
        for (int peg : ring) {
            sum = sum * 31 + peg;
        }
        sum = sum * 31 + around();
        return sum * 31 + (wide ? 1 : 0);
    }
}
