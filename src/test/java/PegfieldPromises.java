/** Each promise in turn: ordinary inputs, the edges that the document names, wrong inputs, order of exceptions. */
public final class PegfieldPromises {
    private static final int LEAST = Integer.MIN_VALUE;
    private static final int MOST = Integer.MAX_VALUE;
    private static final int[] NO_PEGS = {-1, 12, 13, LEAST, MOST};
    private static final int[] NO_PLACES = {-1, 91, 92, LEAST, MOST};
    private static final int[] NO_NUMBERS = {-1, 32768, 65536, LEAST, MOST};

    public static void main(String[] args) {
        newObject();
        put();
        take();
        step();
        isThereAndPlaceOfAndCount();
        widen();
        stretch();
        isSteadyAndDoubledAndClose();
        isStraight();
        nearest();
        rank();
        isIn();
        rootAndBitsAndGrains();
        wholeRoot();
        isNearestAndHalved();
        between();
        joinAndUnjoinAndRingAt();
        takeFromRing();
        around();
        doubleArea();
        sideBits();
        checksum();
        isSound();
        Check.end("PegfieldPromises");
    }

    /** A call that is due to throw, and to change nothing. */
    private static void refused(Pegfield x, String what, String exception, Check.Call call) {
        long before = x.checksum();
        Check.due(what, exception, call);
        Check.same(what + " changes nothing", before, x.checksum());
    }

    private static void newObject() {
        Pegfield x = new Pegfield();
        Check.same("1 count", 0, x.count());
        for (int peg = 0; peg < 12; peg++) {
            Check.same("1 isThere " + peg, false, x.isThere(peg));
        }
        Check.due("1 ringAt", Check.OUT, () -> x.ringAt(0));
        Check.due("1 unjoin", Check.STATE, () -> x.unjoin());
        Check.same("1 around", 0, x.around());
        Check.same("1 doubleArea", 0, x.doubleArea());
        Check.same("1 checksum", 7L * 31 * 31, x.checksum());
        Check.same("1 isSound", true, x.isSound());
        Check.same("1 not widened", false, x.widen(false));
        Pegfield y = new Pegfield();
        y.put(0, 1, 1);
        Check.same("1 objects apart", false, x.isThere(0));
    }

    private static void put() {
        Pegfield x = new Pegfield();
        Check.same("2 first", true, x.put(0, 0, 90));
        Check.same("2 again", false, x.put(0, 0, 90));
        Check.same("2 elsewhere", false, x.put(0, 90, 0));
        Check.same("2 moved", 90, x.placeOf(0));
        Check.same("2 last peg", true, x.put(11, 90, 90));
        Check.same("2 corner", 8280, x.placeOf(11));
        Check.same("2 same place", true, x.put(5, 90, 90));
        x.take(5);
        Check.same("2 after take", true, x.put(5, 3, 4));
        for (int bad : NO_PEGS) {
            refused(x, "2 peg " + bad, Check.OUT, () -> x.put(bad, 1, 1));
            refused(x, "2 peg and place " + bad, Check.OUT, () -> x.put(bad, 91, -1));
        }
        for (int bad : NO_PLACES) {
            refused(x, "2 across " + bad, Check.ARGUMENT, () -> x.put(5, bad, 1));
            refused(x, "2 up " + bad, Check.ARGUMENT, () -> x.put(5, 1, bad));
            refused(x, "2 new peg, across " + bad, Check.ARGUMENT, () -> x.put(6, bad, 1));
            refused(x, "2 new peg, up " + bad, Check.ARGUMENT, () -> x.put(6, 1, bad));
        }
        x.join(5);
        Check.same("2 a peg of the ring moves", false, x.put(5, 7, 8));
        Check.same("2 and stays in it", 5, x.ringAt(0));
    }

    private static void take() {
        Pegfield x = Fields.three();
        x.take(1);
        Check.same("3 gone", false, x.isThere(1));
        Check.same("3 count", 2, x.count());
        Check.same("3 others stand", true, x.isThere(0) && x.isThere(2));
        refused(x, "3 twice", Check.NONE, () -> { x.take(1); return "nothing"; });
        refused(x, "3 never stood", Check.NONE, () -> { x.take(11); return "nothing"; });
        for (int bad : NO_PEGS) {
            refused(x, "3 peg " + bad, Check.OUT, () -> { x.take(bad); return "nothing"; });
        }
        x.take(0);
        x.take(2);
        Check.same("3 all gone", 0, x.count());
    }

    private static void step() {
        Pegfield x = Fields.three();
        Check.same("4 n", true, x.step(1, 'n'));
        Check.same("4 n place", 17 * 91 + 12, x.placeOf(1));
        Check.same("4 e", true, x.step(1, 'e'));
        Check.same("4 e place", 17 * 91 + 13, x.placeOf(1));
        Check.same("4 s", true, x.step(1, 's'));
        Check.same("4 s place", 16 * 91 + 13, x.placeOf(1));
        Check.same("4 w", true, x.step(1, 'w'));
        Check.same("4 w place", 16 * 91 + 12, x.placeOf(1));
        Check.same("4 no place s", false, x.step(0, 's'));
        Check.same("4 no place w", false, x.step(0, 'w'));
        Check.same("4 no place n", false, x.step(2, 'n'));
        Check.same("4 no place e", false, x.step(2, 'e'));
        Check.same("4 unchanged low", 0, x.placeOf(0));
        Check.same("4 unchanged high", 8280, x.placeOf(2));
        Check.same("4 to the edge", true, x.step(2, 's') && x.step(2, 'n'));
        char[] noWays = {'N', 'S', 'E', 'W', ' ', 'a', (char) 0, (char) 65535, 'x', (char) ('n' + 256)};
        for (char bad : noWays) {
            refused(x, "4 way " + (int) bad, Check.ARGUMENT, () -> x.step(1, bad));
            refused(x, "4 way at the edge " + (int) bad, Check.ARGUMENT, () -> x.step(2, bad));
            refused(x, "4 way, none stands " + (int) bad, Check.NONE, () -> x.step(3, bad));
            refused(x, "4 way, no peg " + (int) bad, Check.OUT, () -> x.step(12, bad));
        }
        refused(x, "4 does not stand", Check.NONE, () -> x.step(3, 'n'));
        for (int bad : NO_PEGS) {
            refused(x, "4 peg " + bad, Check.OUT, () -> x.step(bad, 'n'));
        }
    }

    private static void isThereAndPlaceOfAndCount() {
        Pegfield x = Fields.three();
        Check.same("5 stands", true, x.isThere(2));
        Check.same("5 does not", false, x.isThere(3));
        Check.same("6 place", 16 * 91 + 12, x.placeOf(1));
        Check.same("6 place 0", 0, x.placeOf(0));
        refused(x, "6 does not stand", Check.NONE, () -> x.placeOf(3));
        for (int bad : NO_PEGS) {
            refused(x, "5 peg " + bad, Check.OUT, () -> x.isThere(bad));
            refused(x, "6 peg " + bad, Check.OUT, () -> x.placeOf(bad));
        }
        for (int peg = 0; peg < 12; peg++) {
            x.put(peg, 40, 40);
            Check.same("7 count " + peg, peg < 3 ? 3 : peg + 1, x.count());
        }
    }

    private static void widen() {
        Pegfield x = Fields.three();
        Check.same("8 stays", false, x.widen(false));
        Check.same("8 widened", true, x.widen(true));
        Check.same("8 again", false, x.widen(true));
        Check.same("8 wide stretch", 655360, x.stretch(0, 1));
        Check.same("8 places stay", 8280, x.placeOf(2));
        Check.same("8 back", true, x.widen(false));
        Check.same("8 stretch", 327680, x.stretch(0, 1));
    }

    private static void stretch() {
        Pegfield x = Fields.three();
        Check.same("9 five rods", 5 * 65536, x.stretch(0, 1));
        Check.same("9 back", 5 * 65536, x.stretch(1, 0));
        Check.same("9 the longest", 2085343, x.stretch(0, 2));
        Check.same("9 itself", 0, x.stretch(2, 2));
        x.put(3, 90, 90);
        Check.same("9 one place", 0, x.stretch(2, 3));
        x.put(3, 90, 89);
        Check.same("9 a quarter", 16384, x.stretch(2, 3));
        x.put(3, 89, 89);
        Check.same("9 a quarter aslant", 23170, x.stretch(2, 3));
        x.widen(true);
        Check.same("9 the longest, wide", 4170686, x.stretch(0, 2));
        Check.same("9 a half aslant", 46341, x.stretch(2, 3));
        twoPegs("9 stretch", x, (from, to) -> x.stretch(from, to));
    }

    /** A call that asks for two pegs by number. */
    interface Two {
        Object run(int from, int to);
    }

    private static void twoPegs(String what, Pegfield x, Two call) {
        for (int bad : NO_PEGS) {
            refused(x, what + " from " + bad, Check.OUT, () -> call.run(bad, 0));
            refused(x, what + " to " + bad, Check.OUT, () -> call.run(0, bad));
            refused(x, what + " from absent to " + bad, Check.OUT, () -> call.run(11, bad));
            refused(x, what + " to absent from " + bad, Check.OUT, () -> call.run(bad, 11));
        }
        refused(x, what + " from absent", Check.NONE, () -> call.run(11, 0));
        refused(x, what + " to absent", Check.NONE, () -> call.run(0, 11));
        refused(x, what + " both absent", Check.NONE, () -> call.run(11, 10));
        refused(x, what + " absent itself", Check.NONE, () -> call.run(11, 11));
    }

    private static void isSteadyAndDoubledAndClose() {
        Pegfield x = Fields.three();
        for (int wide = 0; wide < 2; wide++) {
            for (int from = 0; from < 3; from++) {
                for (int to = 0; to < 3; to++) {
                    Check.same("10 isSteady", true, x.isSteady(from, to));
                    Check.same("11 isDoubled", true, x.isDoubled(from, to));
                    Check.same("12 isClose", true, x.isClose(from, to));
                }
            }
            x.widen(true);
        }
        Check.same("11 leaves it wide", false, x.widen(true));
        twoPegs("10 isSteady", x, (from, to) -> x.isSteady(from, to));
        twoPegs("11 isDoubled", x, (from, to) -> x.isDoubled(from, to));
        twoPegs("12 isClose", x, (from, to) -> x.isClose(from, to));
    }

    private static void isStraight() {
        Pegfield x = Fields.three();
        for (int from = 0; from < 3; from++) {
            for (int by = 0; by < 3; by++) {
                for (int to = 0; to < 3; to++) {
                    int a = from, b = by, c = to;
                    Check.due("13 isStraight", true, () -> x.isStraight(a, b, c));
                }
            }
        }
        twoPegs("13 by 1", x, (from, to) -> x.isStraight(from, 1, to));
        twoPegs("13 from 1", x, (by, to) -> x.isStraight(1, by, to));
        twoPegs("13 to 1", x, (from, by) -> x.isStraight(from, by, 1));
        refused(x, "13 absent, absent, no peg", Check.OUT, () -> x.isStraight(11, 10, 12));
        refused(x, "13 absent, no peg, absent", Check.OUT, () -> x.isStraight(11, 12, 10));
    }

    private static void nearest() {
        Pegfield x = Fields.three();
        Check.same("14 of 2", 1, x.nearest(2));
        Check.same("14 of 1", 0, x.nearest(1));
        Check.same("14 of 0", 1, x.nearest(0));
        x.put(9, 24, 32);
        Check.same("14 lowest of two", 0, x.nearest(1));
        x.put(7, 12, 16);
        Check.same("14 at one place", 7, x.nearest(1));
        Check.same("14 and back", 1, x.nearest(7));
        x.put(4, 12, 16);
        Check.same("14 lowest at one place", 4, x.nearest(1));
        Check.same("14 never itself", 1, x.nearest(4));
        refused(x, "14 absent", Check.NONE, () -> x.nearest(3));
        Pegfield y = new Pegfield();
        y.put(6, 1, 1);
        refused(y, "14 no other", Check.STATE, () -> y.nearest(6));
        refused(y, "14 absent before no other", Check.NONE, () -> y.nearest(5));
        for (int bad : NO_PEGS) {
            refused(y, "14 peg " + bad, Check.OUT, () -> y.nearest(bad));
        }
    }

    private static void rank() {
        Pegfield x = Fields.three();
        Check.same("15 the longest", 2, x.rank(0, 2));
        Check.same("15 the middle one", 1, x.rank(1, 2));
        Check.same("15 the shortest", 0, x.rank(0, 1));
        Check.same("15 itself", 0, x.rank(2, 2));
        x.put(8, 0, 0);
        Check.same("15 four pegs", 5 - 1, x.rank(0, 2));
        Check.same("15 as long ones are not counted", 1, x.rank(8, 1));
        Check.same("15 one place", 0, x.rank(0, 8));
        Check.same("15 other order", 4, x.rank(2, 8));
        twoPegs("15 rank", x, (from, to) -> x.rank(from, to));
    }

    private static void isIn() {
        Pegfield x = Fields.three();
        Check.same("16 on the edge", true, x.isIn(1, 0, 25, false));
        Check.same("16 on the edge of a quarter", true, x.isIn(1, 0, 100, true));
        Check.same("16 outside", false, x.isIn(1, 0, 24, false));
        Check.same("16 outside of a quarter", false, x.isIn(1, 0, 99, true));
        Check.same("16 inside", true, x.isIn(0, 1, 26, false));
        Check.same("16 itself", true, x.isIn(2, 2, 0, true));
        Check.same("16 no width", false, x.isIn(0, 1, 0, false));
        Check.same("16 the widest", true, x.isIn(0, 2, 32767, false));
        Check.same("16 the widest quarter", true, x.isIn(0, 2, 32767, true));
        Check.same("16 aslant", true, x.isIn(0, 2, 4050, true));
        Check.same("16 aslant outside", false, x.isIn(0, 2, 4049, true));
        x.widen(true);
        Check.same("16 wide", false, x.isIn(1, 0, 99, false));
        Check.same("16 wide, on the edge", true, x.isIn(1, 0, 100, false));
        twoPegs("16 isIn", x, (peg, middle) -> x.isIn(peg, middle, 1, false));
        for (int bad : NO_NUMBERS) {
            refused(x, "16 number " + bad, Check.ARGUMENT, () -> x.isIn(0, 1, bad, false));
            refused(x, "16 quarter " + bad, Check.ARGUMENT, () -> x.isIn(0, 1, bad, true));
            refused(x, "16 absent and number " + bad, Check.NONE, () -> x.isIn(0, 11, bad, true));
            refused(x, "16 no peg and number " + bad, Check.OUT, () -> x.isIn(12, 0, bad, true));
        }
    }

    private static void rootAndBitsAndGrains() {
        Pegfield x = new Pegfield();
        Check.same("17 of 2", 1.4142135623730951, x.root(2, false));
        Check.same("17 of half", 0.7071067811865476, x.root(2, true));
        Check.same("17 of 0", 0.0, x.root(0, false));
        Check.same("17 of a quarter", 0.5, x.root(1, true));
        Check.same("17 of 1", 1.0, x.root(1, false));
        Check.same("17 of the greatest", StrictMath.sqrt(32767), x.root(32767, false));
        Check.same("17 of its quarter", StrictMath.sqrt(32767) / 2, x.root(32767, true));
        Check.same("18 of 2", 0x3FF6A09E667F3BCDL, x.rootBits(2, false));
        Check.same("18 of half", 4604544271217802189L, x.rootBits(2, true));
        Check.same("18 of 0", 0L, x.rootBits(0, true));
        Check.same("18 of 1", 0x3FF0000000000000L, x.rootBits(1, false));
        Check.same("18 of a quarter", 0x3FE0000000000000L, x.rootBits(1, true));
        Check.same("19 of 2", 92682, x.rootGrains(2, false));
        Check.same("19 of half", 46341, x.rootGrains(2, true));
        Check.same("19 of 0", 0, x.rootGrains(0, false));
        Check.same("19 of 1", 65536, x.rootGrains(1, false));
        Check.same("19 of a quarter", 32768, x.rootGrains(1, true));
        Check.same("19 of the greatest", 11863102, x.rootGrains(32767, false));
        for (int bad : NO_NUMBERS) {
            for (int quarter = 0; quarter < 2; quarter++) {
                boolean isQuarter = quarter == 1;
                refused(x, "17 number " + bad, Check.ARGUMENT, () -> x.root(bad, isQuarter));
                refused(x, "18 number " + bad, Check.ARGUMENT, () -> x.rootBits(bad, isQuarter));
                refused(x, "19 number " + bad, Check.ARGUMENT, () -> x.rootGrains(bad, isQuarter));
                refused(x, "21 number " + bad, Check.ARGUMENT, () -> x.isNearest(bad, isQuarter));
            }
            refused(x, "20 number " + bad, Check.ARGUMENT, () -> x.wholeRoot(bad));
            refused(x, "22 number " + bad, Check.ARGUMENT, () -> x.isHalved(bad));
        }
    }

    private static void wholeRoot() {
        Pegfield x = new Pegfield();
        Check.same("20 of 0", 0, x.wholeRoot(0));
        Check.same("20 of 3", 1, x.wholeRoot(3));
        Check.same("20 of 4", 2, x.wholeRoot(4));
        Check.same("20 below a square", 180, x.wholeRoot(32760));
        Check.same("20 of a square", 181, x.wholeRoot(32761));
        Check.same("20 of the greatest", 181, x.wholeRoot(32767));
    }

    private static void isNearestAndHalved() {
        Pegfield x = new Pegfield();
        int[] numbers = {0, 1, 2, 3, 4, 5, 255, 256, 257, 16383, 16384, 32761, 32766, 32767};
        for (int number : numbers) {
            Check.same("21 of " + number, true, x.isNearest(number, false));
            Check.same("21 of a quarter of " + number, true, x.isNearest(number, true));
            Check.same("22 of " + number, true, x.isHalved(number));
        }
    }

    private static void between() {
        Pegfield x = new Pegfield();
        Check.same("23 ordinary", 2, x.between(10, 30, false));
        Check.same("23 of quarters", 1, x.between(10, 30, true));
        Check.same("23 the second one counts", 1, x.between(3, 4, false));
        Check.same("23 the first one does not", 0, x.between(4, 5, false));
        Check.same("23 quarters, the second one counts", 1, x.between(15, 16, true));
        Check.same("23 quarters, the first one does not", 0, x.between(16, 17, true));
        Check.same("23 all", 181, x.between(0, 32767, false));
        Check.same("23 all of quarters", 90, x.between(0, 32767, true));
        Check.same("23 the same", 0, x.between(9, 9, false));
        Check.same("23 the other way round", 0, x.between(30, 10, false));
        for (int bad : NO_NUMBERS) {
            refused(x, "23 low " + bad, Check.ARGUMENT, () -> x.between(bad, 5, false));
            refused(x, "23 high " + bad, Check.ARGUMENT, () -> x.between(5, bad, true));
            refused(x, "23 both " + bad, Check.ARGUMENT, () -> x.between(bad, bad, false));
        }
    }

    private static void joinAndUnjoinAndRingAt() {
        Pegfield x = Fields.three();
        for (int number = 1; number <= 12; number++) {
            int peg = number % 3;
            Check.due("24 join " + number, number, () -> x.join(peg));
        }
        refused(x, "24 thirteenth", Check.STATE, () -> x.join(0));
        refused(x, "24 thirteenth, absent", Check.NONE, () -> x.join(3));
        for (int bad : NO_PEGS) {
            refused(x, "24 thirteenth, no peg " + bad, Check.OUT, () -> x.join(bad));
        }
        for (int place = 0; place < 12; place++) {
            int here = place;
            Check.due("26 ringAt " + place, (place + 1) % 3, () -> x.ringAt(here));
        }
        refused(x, "26 below", Check.OUT, () -> x.ringAt(-1));
        refused(x, "26 above", Check.OUT, () -> x.ringAt(12));
        refused(x, "26 least", Check.OUT, () -> x.ringAt(LEAST));
        refused(x, "26 most", Check.OUT, () -> x.ringAt(MOST));
        for (int number = 12; number >= 1; number--) {
            int left = number - 1;
            Check.due("25 unjoin " + number, number % 3, () -> x.unjoin());
            refused(x, "26 behind the last one", Check.OUT, () -> x.ringAt(left));
        }
        refused(x, "25 empty", Check.STATE, () -> x.unjoin());
        refused(x, "24 absent", Check.NONE, () -> x.join(3));
        Check.same("24 after all", 1, x.join(2));
        for (int bad : NO_PEGS) {
            refused(x, "24 no peg " + bad, Check.OUT, () -> x.join(bad));
        }
    }

    private static void takeFromRing() {
        Pegfield x = Fields.three();
        x.join(1);
        x.join(0);
        x.join(1);
        Check.Call take = () -> { x.take(1); return "taken"; };
        refused(x, "3 in the ring", Check.STATE, take);
        x.unjoin();
        refused(x, "3 still in the ring", Check.STATE, take);
        x.unjoin();
        x.unjoin();
        Check.due("3 off the ring", "taken", take);
        Check.due("3 then absent", Check.NONE, take);
    }

    private static void around() {
        Pegfield x = Fields.three();
        x.join(0);
        Check.same("27 of one", 0, x.around());
        x.join(1);
        Check.same("27 of two", 2 * 327680, x.around());
        x.join(2);
        Check.same("27 of three", 327680 + x.stretch(1, 2) + 2085343, x.around());
        x.widen(true);
        Check.same("27 wide", 655360 + x.stretch(1, 2) + 4170686, x.around());
        Pegfield y = new Pegfield();
        y.put(0, 0, 0);
        y.put(1, 1, 1);
        y.widen(true);
        for (int i = 0; i < 12; i++) {
            y.join(i % 2);
        }
        Check.same("27 each rounded by itself", 12 * 46341, y.around());
        y.put(1, 90, 90);
        Check.same("27 the longest", 12 * 4170686, y.around());
    }

    private static void doubleArea() {
        Pegfield x = new Pegfield();
        Check.same("28 empty", 0, x.doubleArea());
        x.put(3, 10, 10);
        x.put(4, 30, 10);
        x.put(5, 20, 40);
        x.join(3);
        Check.same("28 of one", 0, x.doubleArea());
        x.join(4);
        Check.same("28 of two", 0, x.doubleArea());
        x.join(5);
        Check.same("28 of three", 600, x.doubleArea());
        x.widen(true);
        Check.same("28 wide plays no part", 600, x.doubleArea());
        x.unjoin();
        x.unjoin();
        x.join(5);
        x.join(4);
        Check.same("28 the other way round", -600, x.doubleArea());
    }

    private static void sideBits() {
        Check.same("29 empty", 0L, new Pegfield().sideBits());
        Check.same("29 a square", Double.doubleToRawLongBits(StrictMath.sqrt(200)), Fields.rounds(10, 10, 1).sideBits());
        Pegfield large = Fields.rounds(90, 90, 2);
        Check.same("29 double area", 32400, large.doubleArea());
        Check.same("29 large", Double.doubleToRawLongBits(180.0), large.sideBits());
        Pegfield greater = Fields.rounds(90, 90, 3);
        Check.same("29 three times round", 48600, greater.doubleArea());
        refused(greater, "29 too large", Check.STATE, () -> greater.sideBits());
        for (int area = 32765; area <= 32770; area++) {
            sideAtEdge(area, false);
            sideAtEdge(area, true);
        }
    }

    private static void sideAtEdge(int area, boolean isBackward) {
        Pegfield x = Fields.nearGreatest(area, isBackward);
        Check.same("28 area at the edge", isBackward ? -area : area, x.doubleArea());
        Object want = area > 32767 ? Check.STATE : Double.doubleToRawLongBits(StrictMath.sqrt(area));
        Check.due("29 edge " + area, want, () -> x.sideBits());
        Check.due("31 isSound at the edge " + area, true, () -> x.isSound());
    }

    private static void checksum() {
        Pegfield x = new Pegfield();
        Check.same("30 empty", 6727L, x.checksum());
        x.put(4, 2, 1);
        long one = ((7 * 31 + 5) * 31 + 93) * 31 - 1;
        Check.same("30 one peg", one * 31 * 31, x.checksum());
        x.widen(true);
        Check.same("30 widened", one * 31 * 31 + 1, x.checksum());
        x.put(0, 2, 2);
        long two = ((7 * 31 + 1) * 31 + 184) * 31 + 4;
        two = ((two * 31 + 5) * 31 + 93) * 31;
        Check.same("30 two pegs", two * 31 * 31 + 1, x.checksum());
        x.join(4);
        Check.same("30 ring of one", (two * 31 + 4) * 31 * 31 + 1, x.checksum());
        x.join(0);
        long ring = (two * 31 + 4) * 31;
        Check.same("30 ring of two", (ring * 31 + 65536) * 31 + 1, x.checksum());
        Check.same("30 again", x.checksum(), x.checksum());
        Check.same("30 of a run", 178681177582924994L, wideThree().checksum());
    }

    private static Pegfield wideThree() {
        Pegfield x = Fields.three();
        x.widen(true);
        return x;
    }

    private static void isSound() {
        Check.same("31 empty", true, new Pegfield().isSound());
        Pegfield x = Fields.three();
        Check.same("31 three pegs", true, x.isSound());
        for (int peg = 0; peg < 12; peg++) {
            x.put(peg, 7 * peg + 3, 90 - peg * peg / 2);
            x.join(peg);
            long before = x.checksum();
            Check.due("31 pegs " + peg, true, () -> x.isSound());
            Check.same("31 changes nothing", before, x.checksum());
        }
        x.widen(true);
        Check.same("31 wide", true, x.isSound());
        Check.same("31 leaves it wide", false, x.widen(true));
    }
}
