/** Boundary cases of promises 1 to 8. */
final class EdgesOfPegs {
    private static final String NO_NUMBER = "Throws `IndexOutOfBoundsException` if there is no such number";
    private static final String ABSENT = "Throws `NoSuchElementException` if it does not stand";
    private static final char[] NO_WAYS = {'N', 'S', 'E', 'W', ' ', 'm', 'o', 'r', 't', 'd', 'f', 'v', 'x', 0, 65535,
        'n' + 256, 's' + 256, 'e' + 256, 'w' + 256};

    private EdgesOfPegs() {
    }

    static void run() {
        newObject();
        put();
        putRefused();
        take();
        takeRefused();
        step();
        stepRefused();
        isThere();
        placeOf();
        count();
        widen();
    }

    static Object taken(Pegfield x, int peg) {
        x.take(peg);
        return "taken";
    }

    private static void newObject() {
        String words = "Creates a field without pegs, not widened, with an empty ring.";
        Edge.answers(1, words, "no pegs", 0, Fields::fresh, x -> x.count());
        Edge.answers(1, words, "no peg's place", Check.NONE, Fields::fresh, x -> x.placeOf(0));
        Edge.answers(1, words, "not widened", false, Fields::fresh, x -> x.widen(false));
        Edge.answers(1, words, "nothing in the ring", Check.OUT, Fields::fresh, x -> x.ringAt(0));
        Edge.answers(1, words, "nothing to take off", Check.STATE, Fields::fresh, x -> x.unjoin());
        Edge.test(1, words, "after another one that is full", () -> {
            Pegfield full = Fields.full();
            String before = Edge.state(full);
            String fresh = Edge.state(new Pegfield());
            Pegfield x = new Pegfield();
            Edge.due(fresh, () -> Edge.state(x));
            Fields.joined();
            Edge.due(fresh, () -> Edge.state(x));
            Edge.due(before, () -> Edge.state(full));
        });
    }

    private static void put() {
        String isNew = "Returns whether it did not stand.";
        for (int peg : new int[] {0, 11}) {
            Edge.answers(2, isNew, "new, peg " + peg, true, Fields::fresh, x -> x.put(peg, 0, 0));
            Edge.answers(2, isNew, "at its own place, peg " + peg, false, () -> Fields.atOnePlace(12),
                    x -> x.put(peg, 40, 41));
            Edge.answers(2, isNew, "elsewhere, peg " + peg, false, Fields::full, x -> x.put(peg, 90, 90));
            Edge.test(2, isNew, "taken before, peg " + peg, () -> {
                Pegfield x = Fields.atOnePlace(12);
                x.take(peg);
                Edge.due(true, () -> x.put(peg, 40, 41));
                Edge.due(false, () -> x.put(peg, 40, 41));
            });
        }
        int[][] edges = {{0, 45}, {90, 45}, {45, 0}, {45, 90}, {0, 0}, {0, 90}, {90, 0}, {90, 90}};
        for (int[] at : edges) {
            Edge.test(2, "Sets a peg, or puts it to another place.", "at the edge, " + at[0] + "/" + at[1], () -> {
                Pegfield x = new Pegfield();
                x.put(3, at[0], at[1]);
                Edge.due(at[1] * 91 + at[0], () -> x.placeOf(3));
                x.put(3, 44, 46);
                x.put(3, at[0], at[1]);
                Edge.due(at[1] * 91 + at[0], () -> x.placeOf(3));
                Edge.due(1, x::count);
            });
        }
        Edge.test(2, "Sets a peg, or puts it to another place.", "a peg of the ring", () -> {
            Pegfield x = Fields.joined();
            Edge.due(false, () -> x.put(1, 90, 0));
            Edge.due("1 0 1", () -> x.ringAt(0) + " " + x.ringAt(1) + " " + x.ringAt(2));
            Edge.due(2 * 90 * 16384, x::around);
        });
    }

    private static void putRefused() {
        String noPlace = "Throws `IllegalArgumentException` if there is no such place across, or no such place up";
        Edge.refusedNumbers(2, NO_NUMBER, "peg", Edge.NO_PEGS, (x, bad) -> x.put(bad, 0, 0));
        Edge.refusedNumbers(2, NO_NUMBER, "peg, and no place;", Edge.NO_PEGS, (x, bad) -> x.put(bad, 91, -1));
        for (int peg : new int[] {0, 1, 11}) {
            String what = "peg " + peg + ", ";
            Edge.refusedNumbers(2, noPlace, what + "across", Edge.NO_PLACES, (x, bad) -> x.put(peg, bad, 5));
            Edge.refusedNumbers(2, noPlace, what + "up", Edge.NO_PLACES, (x, bad) -> x.put(peg, 5, bad));
            Edge.refusedNumbers(2, noPlace, what + "both", Edge.NO_PLACES, (x, bad) -> x.put(peg, bad, bad));
        }
    }

    private static void take() {
        String words = "Takes a peg away.";
        for (int peg : new int[] {0, 11}) {
            Edge.test(3, words, "one of twelve, peg " + peg, () -> {
                Pegfield x = Fields.atOnePlace(12);
                Edge.due("taken", () -> taken(x, peg));
                Edge.due(11, x::count);
                for (int other = 0; other < 12; other++) {
                    int asked = other;
                    Edge.due(asked != peg, () -> x.isThere(asked));
                }
            });
        }
        Edge.test(3, words, "the last one", () -> {
            Pegfield x = Fields.one();
            Edge.due("taken", () -> taken(x, 6));
            Edge.due(Edge.state(new Pegfield()), () -> Edge.state(x));
        });
        Edge.test(3, words, "one beside the ring", () -> {
            Pegfield x = Fields.joined();
            Edge.due("taken", () -> taken(x, 2));
            Edge.due("1 0 1", () -> x.ringAt(0) + " " + x.ringAt(1) + " " + x.ringAt(2));
        });
        Edge.test(3, words, "off the ring", () -> {
            Pegfield x = Fields.full();
            x.unjoin();
            Edge.due("taken", () -> taken(x, 11));
            Edge.due(11, x::count);
        });
    }

    private static void takeRefused() {
        String inRing = "Throws `IllegalStateException` if it stands in the ring";
        Edge.refusedNumbers(3, NO_NUMBER, "peg", Edge.NO_PEGS, (x, bad) -> taken(x, bad));
        Edge.refused(3, ABSENT, "on a new field, the first", Fields::fresh, x -> taken(x, 0));
        Edge.refused(3, ABSENT, "on a new field, the last", Fields::fresh, x -> taken(x, 11));
        Edge.refused(3, ABSENT, "beside others", Fields::joined, x -> taken(x, 3));
        Edge.refused(3, ABSENT, "taken before", () -> without(Fields.three(), 1), x -> taken(x, 1));
        for (int peg = 0; peg < 12; peg++) {
            int asked = peg;
            Edge.refused(3, inRing, "a full ring's peg " + peg, Fields::full, x -> taken(x, asked));
        }
        Edge.refused(3, inRing, "its first and last one", Fields::joined, x -> taken(x, 1));
        Edge.refused(3, inRing, "its middle one", Fields::joined, x -> taken(x, 0));
        Edge.refused(3, inRing, "twice before, once now", () -> {
            Pegfield x = Fields.joined();
            x.unjoin();
            return x;
        }, x -> taken(x, 1));
        Edge.refused(3, inRing, "all that there is", () -> {
            Pegfield x = Fields.one();
            x.join(6);
            return x;
        }, x -> taken(x, 6));
    }

    static Pegfield without(Pegfield x, int peg) {
        x.take(peg);
        return x;
    }

    private static Pegfield at(int across, int up) {
        Pegfield x = new Pegfield();
        x.put(0, across, up);
        return x;
    }

    private static void step() {
        String words = "Returns false, with nothing changed, if there is no place, otherwise true.";
        for (int place = 0; place <= 90; place += 45) {
            int here = place;
            stepAtEdge(words, 'n', here, 90, here, 89);
            stepAtEdge(words, 's', here, 0, here, 1);
            stepAtEdge(words, 'e', 90, here, 89, here);
            stepAtEdge(words, 'w', 0, here, 1, here);
        }
        Edge.test(4, words, "across the whole field, and back", () -> {
            Pegfield x = at(0, 3);
            for (int across = 1; across <= 90; across++) {
                Edge.due(true, () -> x.step(0, 'e'));
            }
            Edge.due(false, () -> x.step(0, 'e'));
            Edge.due(3 * 91 + 90, () -> x.placeOf(0));
            for (int across = 89; across >= 0; across--) {
                Edge.due(true, () -> x.step(0, 'w'));
            }
            Edge.due(false, () -> x.step(0, 'w'));
            Edge.due(3 * 91, () -> x.placeOf(0));
        });
        Edge.answers(4, words, "onto another peg", true, () -> Fields.legs(1, 0, false), x -> x.step(0, 'e'));
        Edge.answers(4, words, "a peg of the ring", true, Fields::full, x -> x.step(11, 's'));
    }

    /** At the edge there is no place to go to; one place before it there is. */
    private static void stepAtEdge(String words, char way, int across, int up, int acrossBefore, int upBefore) {
        String what = "'" + way + "' ";
        Edge.test(4, words, what + "at the edge " + across + "/" + up, () -> {
            Pegfield x = at(across, up);
            String before = Edge.state(x);
            Edge.due(false, () -> x.step(0, way));
            Edge.due(before, () -> Edge.state(x));
        });
        Edge.test(4, words, what + "to the edge from " + acrossBefore + "/" + upBefore, () -> {
            Pegfield x = at(acrossBefore, upBefore);
            Edge.due(true, () -> x.step(0, way));
            Edge.due(up * 91 + across, () -> x.placeOf(0));
        });
    }

    private static void stepRefused() {
        String noWay = "Throws `IllegalArgumentException` if there is no such way";
        Edge.refusedNumbers(4, NO_NUMBER, "peg", Edge.NO_PEGS, (x, bad) -> x.step(bad, 'n'));
        Edge.refusedNumbers(4, NO_NUMBER, "peg, and no way;", Edge.NO_PEGS, (x, bad) -> x.step(bad, 'x'));
        for (char way : new char[] {'n', 's', 'e', 'w', 'x'}) {
            Edge.refused(4, ABSENT, "new, way " + way, Fields::fresh, x -> x.step(0, way));
            Edge.refused(4, ABSENT, "beside others, way " + way, Fields::joined, x -> x.step(11, way));
            Edge.refused(4, ABSENT, "taken before, way " + way, () -> without(Fields.three(), 1), x -> x.step(1, way));
        }
        for (char way : NO_WAYS) {
            Edge.refusedWhenSet(4, noWay, "way " + (int) way, x -> x.step(1, way));
            Edge.refused(4, noWay, "in the last corner, way " + (int) way, () -> at(90, 90), x -> x.step(0, way));
            Edge.refused(4, noWay, "in the first corner, way " + (int) way, () -> at(0, 0), x -> x.step(0, way));
        }
    }

    private static void isThere() {
        String words = "Returns whether it stands.";
        for (int peg : new int[] {0, 11}) {
            Edge.answers(5, words, "new, peg " + peg, false, Fields::fresh, x -> x.isThere(peg));
            Edge.answers(5, words, "full, peg " + peg, true, Fields::full, x -> x.isThere(peg));
            Edge.answers(5, words, "taken, peg " + peg, false, () -> without(Fields.atOnePlace(12), peg),
                    x -> x.isThere(peg));
            Edge.onlyTells(5, words, x -> x.isThere(peg));
        }
        Edge.refusedNumbers(5, NO_NUMBER, "peg", Edge.NO_PEGS, (x, bad) -> x.isThere(bad));
    }

    private static void placeOf() {
        String words = "Returns its place up times 91, plus its place across.";
        Edge.answers(6, words, "the least", 0, () -> at(0, 0), x -> x.placeOf(0));
        Edge.answers(6, words, "the end of the first row", 90, () -> at(90, 0), x -> x.placeOf(0));
        Edge.answers(6, words, "the second row", 91, () -> at(0, 1), x -> x.placeOf(0));
        Edge.answers(6, words, "the last row", 8190, () -> at(0, 90), x -> x.placeOf(0));
        Edge.answers(6, words, "the greatest", 8280, () -> at(90, 90), x -> x.placeOf(0));
        Edge.answers(6, words, "widened", 30 * 91 + 80, Fields::full, x -> x.placeOf(11));
        Edge.onlyTells(6, words, x -> x.placeOf(1));
        Edge.refusedNumbers(6, NO_NUMBER, "peg", Edge.NO_PEGS, (x, bad) -> x.placeOf(bad));
        Edge.refused(6, ABSENT, "new, the first", Fields::fresh, x -> x.placeOf(0));
        Edge.refused(6, ABSENT, "new, the last", Fields::fresh, x -> x.placeOf(11));
        Edge.refused(6, ABSENT, "beside others", Fields::joined, x -> x.placeOf(3));
        Edge.refused(6, ABSENT, "taken before", () -> without(Fields.three(), 2), x -> x.placeOf(2));
    }

    private static void count() {
        String words = "Returns how many pegs stand.";
        Edge.answers(7, words, "none", 0, Fields::fresh, x -> x.count());
        Edge.answers(7, words, "one", 1, Fields::one, x -> x.count());
        Edge.answers(7, words, "twelve", 12, Fields::full, x -> x.count());
        Edge.answers(7, words, "twelve at one place", 12, () -> Fields.atOnePlace(12), x -> x.count());
        Edge.onlyTells(7, words, x -> x.count());
        Edge.test(7, words, "after calls that do not count", () -> {
            Pegfield x = Fields.three();
            x.put(2, 3, 3);
            Edge.due(3, x::count);
            Edge.due(Check.ARGUMENT, () -> x.put(3, 0, 91));
            Edge.due(3, x::count);
            Edge.due(Check.NONE, () -> taken(x, 3));
            Edge.due(3, x::count);
        });
        Edge.test(7, words, "down to none", () -> {
            Pegfield x = Fields.atOnePlace(12);
            for (int peg = 0; peg < 12; peg++) {
                x.take(peg);
                Edge.due(11 - peg, x::count);
            }
        });
    }

    private static void widen() {
        String words = "Returns whether it was the other way.";
        Edge.answers(8, words, "new, false", false, Fields::fresh, x -> x.widen(false));
        Edge.answers(8, words, "new, true", true, Fields::fresh, x -> x.widen(true));
        Edge.answers(8, words, "widened, true", false, Fields::full, x -> x.widen(true));
        Edge.answers(8, words, "widened, false", true, Fields::full, x -> x.widen(false));
        String back = "or makes it what it was at first";
        Edge.test(8, back, "there and back", () -> {
            Pegfield x = Fields.joined();
            String before = Edge.state(x);
            x.widen(true);
            Edge.due(655360, () -> x.stretch(0, 1));
            Edge.due(false, () -> x.widen(true));
            Edge.due(655360, () -> x.stretch(0, 1));
            x.widen(false);
            Edge.due(before, () -> Edge.state(x));
        });
        Edge.test(8, back, "the pegs keep their places", () -> {
            Pegfield x = Fields.three();
            x.widen(true);
            Edge.due("0 1468 8280", () -> x.placeOf(0) + " " + x.placeOf(1) + " " + x.placeOf(2));
        });
    }
}
