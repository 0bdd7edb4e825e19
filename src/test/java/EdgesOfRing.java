/** Boundary cases of promises 24 to 29. */
final class EdgesOfRing {
    private static final String NO_NUMBER = "Throws `IndexOutOfBoundsException` if there is no such number";

    private EdgesOfRing() {
    }

    static void run() {
        join();
        joinRefused();
        unjoin();
        ringAt();
        around();
        doubleArea();
        sideBits();
        sideBitsRefused();
    }

    /** One peg, so many times in the ring. */
    private static Pegfield ringOf(int number) {
        Pegfield x = Fields.one();
        for (int i = 0; i < number; i++) {
            x.join(6);
        }
        return x;
    }

    private static void join() {
        String words = "Returns how many the ring has then.";
        for (int number = 0; number < 12; number++) {
            int before = number;
            Edge.answers(24, words, "a ring of " + before, before + 1, () -> ringOf(before), x -> x.join(6));
        }
        Edge.answers(24, words, "the lowest peg", 4, Fields::joined, x -> x.join(0));
        Edge.answers(24, words, "the highest peg", 12, () -> {
            Pegfield x = Fields.full();
            x.unjoin();
            return x;
        }, x -> x.join(11));
        Edge.test(24, "Puts a peg at the end of the ring.", "behind one that was taken off", () -> {
            Pegfield x = Fields.full();
            x.unjoin();
            x.join(0);
            Edge.due(0, () -> x.ringAt(11));
            Edge.due(10, () -> x.ringAt(10));
            Edge.due(0, x::unjoin);
        });
        Edge.test(24, "Puts a peg at the end of the ring.", "emptied, and filled again", () -> {
            Pegfield x = Fields.full();
            for (int number = 0; number < 12; number++) {
                x.unjoin();
            }
            for (int number = 1; number <= 12; number++) {
                int due = number;
                Edge.due(due, () -> x.join(12 - due));
            }
            Edge.due(Check.STATE, () -> x.join(3));
            for (int place = 0; place < 12; place++) {
                int asked = place;
                Edge.due(11 - asked, () -> x.ringAt(asked));
            }
        });
    }

    private static void joinRefused() {
        String absent = "Throws `NoSuchElementException` if it does not stand";
        String full = "Throws `IllegalStateException` if the ring has twelve";
        Edge.refusedNumbers(24, NO_NUMBER, "peg", Edge.NO_PEGS, (x, bad) -> x.join(bad));
        Edge.refused(24, absent, "a new field, the first", Fields::fresh, x -> x.join(0));
        Edge.refused(24, absent, "a new field, the last", Fields::fresh, x -> x.join(11));
        Edge.refused(24, absent, "beside others", Fields::joined, x -> x.join(3));
        Edge.refused(24, absent, "taken before", () -> EdgesOfPegs.without(Fields.joined(), 2), x -> x.join(2));
        Edge.refused(24, absent, "and the ring has twelve", () -> ringOf(12), x -> x.join(5));
        Edge.refused(24, full, "with one peg", () -> ringOf(12), x -> x.join(6));
        Edge.refused(24, full, "with a peg that is not in it", () -> {
            Pegfield x = ringOf(12);
            x.put(0, 0, 0);
            return x;
        }, x -> x.join(0));
        for (int peg : new int[] {0, 5, 11}) {
            Edge.refused(24, full, "with all pegs, peg " + peg, Fields::full, x -> x.join(peg));
        }
    }

    private static void unjoin() {
        String words = "Takes the last one off the ring.";
        String empty = "Throws `IllegalStateException` if the ring is empty";
        Edge.test(25, words, "the only one", () -> {
            Pegfield x = ringOf(1);
            Edge.due(6, x::unjoin);
            Edge.due(Edge.state(Fields.one()), () -> Edge.state(x));
        });
        Edge.test(25, words, "a full ring, down to none", () -> {
            Pegfield x = Fields.full();
            for (int number = 11; number >= 0; number--) {
                Edge.due(number, x::unjoin);
            }
            Edge.due(Check.STATE, x::unjoin);
            Edge.due(0, x::around);
        });
        Edge.test(25, words, "one that stands in it twice", () -> {
            Pegfield x = Fields.joined();
            Edge.due("1 0 1", () -> x.unjoin() + " " + x.unjoin() + " " + x.unjoin());
        });
        Edge.refused(25, empty, "new", Fields::fresh, x -> x.unjoin());
        Edge.refused(25, empty, "with pegs beside it", Fields::three, x -> x.unjoin());
        Edge.refused(25, empty, "emptied", () -> {
            Pegfield x = ringOf(1);
            x.unjoin();
            return x;
        }, x -> x.unjoin());
    }

    private static void ringAt() {
        String words = "its place in it, from 0";
        String noPlace = "Throws `IndexOutOfBoundsException` if there is no such place in it";
        Edge.answers(26, words, "the first of twelve", 0, Fields::full, x -> x.ringAt(0));
        Edge.answers(26, words, "the last of twelve", 11, Fields::full, x -> x.ringAt(11));
        Edge.answers(26, words, "the only one", 6, () -> ringOf(1), x -> x.ringAt(0));
        Edge.answers(26, words, "the last of three", 1, Fields::joined, x -> x.ringAt(2));
        Edge.onlyTells(26, words, x -> x.ringAt(2));
        for (int number = 0; number <= 12; number++) {
            int has = number;
            for (int bad : new int[] {-1, has, has + 1, 12, 13, -has - 1, 256, 65536, Edge.LEAST, Edge.MOST}) {
                Edge.refused(26, noPlace, "place " + bad + " in a ring of " + has, () -> ringOf(has), x -> x.ringAt(bad));
            }
        }
        Edge.refused(26, noPlace, "behind the last one, taken off", () -> {
            Pegfield x = Fields.full();
            x.unjoin();
            return x;
        }, x -> x.ringAt(11));
    }

    private static void around() {
        String words = "Returns the sum of the grains of its stretches, each rounded by itself";
        Edge.answers(27, "0 if it is empty", "new", 0, Fields::fresh, x -> x.around());
        Edge.answers(27, "0 if it is empty", "with pegs beside it", 0, Fields::three, x -> x.around());
        Edge.test(27, "0 if it is empty", "emptied", () -> {
            Pegfield x = Fields.joined();
            x.unjoin();
            x.unjoin();
            x.unjoin();
            Edge.due(0, x::around);
        });
        Edge.answers(27, words, "of one", 0, () -> ringOf(1), x -> x.around());
        Edge.answers(27, words, "of one twelve times", 0, () -> ringOf(12), x -> x.around());
        Edge.test(27, words, "of two, there and back", () -> {
            Pegfield x = Fields.three();
            x.join(0);
            x.join(2);
            Edge.due(2 * 2085343, x::around);
        });
        Edge.test(27, words, "twelve, each rounded down, and widened each rounded up", () -> {
            Pegfield x = EdgesOfTerms.aslant();
            for (int number = 0; number < 12; number++) {
                x.join(number % 2);
            }
            Edge.due(12 * 23170, x::around);
            x.widen(true);
            Edge.due(12 * 46341, x::around);
        });
        Edge.test(27, words, "the longest there is", () -> {
            Pegfield x = Fields.legs(90, 90, true);
            for (int number = 0; number < 12; number++) {
                x.join(number % 2);
            }
            Edge.due(12 * 4170686, x::around);
        });
        Edge.test(27, words, "as the last ones are taken off", () -> {
            Pegfield x = Fields.rounds(3, 4, 1);
            int[] due = {14, 12, 6, 0, 0};
            for (int off = 0; off <= 4; off++) {
                Edge.due(16384 * due[off], x::around);
                Check.answer(x::unjoin);
            }
        });
        Edge.test(27, words, "a full ring", () -> {
            Pegfield x = Fields.full();
            int sum = 0;
            for (int peg = 0; peg < 12; peg++) {
                int next = (peg + 1) % 12;
                sum += Exact.grains(7 * (next - peg), next * next / 2 - peg * peg / 2, true);
            }
            Edge.due(sum, x::around);
        });
        Edge.onlyTells(27, words, x -> x.around());
    }

    private static void doubleArea() {
        String words = "Returns the sum, over its stretches,";
        Edge.answers(28, words, "an empty ring", 0, Fields::three, x -> x.doubleArea());
        Edge.answers(28, words, "of one", 0, () -> ringOf(1), x -> x.doubleArea());
        Edge.answers(28, words, "of two", 0, Fields::joined, x -> x.doubleArea());
        Edge.answers(28, words, "the least above 0", 1, () -> Fields.sliver(1), x -> x.doubleArea());
        Edge.answers(28, words, "the greatest below 0", -1, () -> Fields.sliver(-1), x -> x.doubleArea());
        Edge.answers(28, words, "in a line", 0, () -> Fields.sliver(0), x -> x.doubleArea());
        Edge.answers(28, words, "once round the whole field", 16200, () -> Fields.rounds(90, 90, 1), x -> x.doubleArea());
        Edge.answers(28, words, "three times round", 48600, () -> Fields.rounds(90, 90, 3), x -> x.doubleArea());
        Edge.answers(28, words, "three times round, backward", -48600, () -> {
            Pegfield x = Fields.rounds(90, 90, 0);
            for (int number = 11; number >= 0; number--) {
                x.join(number % 4);
            }
            return x;
        }, x -> x.doubleArea());
        Edge.test(28, words, "as the last ones are taken off", () -> {
            Pegfield x = new Pegfield();
            int[][] places = {{10, 10}, {30, 10}, {20, 40}, {5, 30}};
            for (int peg = 0; peg < 4; peg++) {
                x.put(peg, places[peg][0], places[peg][1]);
                x.join(peg);
            }
            int[] due = {950, 600, 0, 0, 0};
            for (int off = 0; off <= 4; off++) {
                Edge.due(due[off], x::doubleArea);
                Edge.due(bits(due[off]), x::sideBits);
                Check.answer(x::unjoin);
            }
        });
        Edge.answers(28, "whether the field is widened plays no part", "three times round", 48600, () -> {
            Pegfield x = Fields.rounds(90, 90, 3);
            x.widen(true);
            return x;
        }, x -> x.doubleArea());
        Edge.onlyTells(28, words, x -> x.doubleArea());
    }

    private static long bits(int number) {
        return Double.doubleToRawLongBits(StrictMath.sqrt(number));
    }

    private static void sideBits() {
        String words = "Returns the bits of the root, as rootBits().";
        String sign = "its sign left out";
        Edge.answers(29, words, "an empty ring", 0L, Fields::fresh, x -> x.sideBits());
        Edge.answers(29, words, "a ring of one", 0L, () -> ringOf(1), x -> x.sideBits());
        Edge.answers(29, words, "no area", 0L, () -> Fields.sliver(0), x -> x.sideBits());
        Edge.answers(29, words, "the least", bits(1), () -> Fields.sliver(1), x -> x.sideBits());
        Edge.answers(29, sign, "the least", bits(1), () -> Fields.sliver(-1), x -> x.sideBits());
        for (int area = 32765; area <= 32767; area++) {
            int due = area;
            Edge.answers(29, words, "" + area, bits(area), () -> Fields.nearGreatest(due, false), x -> x.sideBits());
            Edge.answers(29, sign, "-" + area, bits(area), () -> Fields.nearGreatest(due, true), x -> x.sideBits());
        }
        Edge.test(29, words, "widened", () -> {
            Pegfield x = Fields.nearGreatest(32767, false);
            x.widen(true);
            Edge.due(bits(32767), x::sideBits);
        });
        Edge.onlyTells(29, words, x -> x.sideBits());
    }

    private static void sideBitsRefused() {
        String words = "Throws `IllegalStateException` if that is above 32,767";
        for (int area : new int[] {32768, 32769, 32850}) {
            Edge.refused(29, words, "" + area, () -> Fields.nearGreatest(area, false), x -> x.sideBits());
            Edge.refused(29, words, "-" + area, () -> Fields.nearGreatest(area, true), x -> x.sideBits());
        }
        Edge.refused(29, words, "three times round the whole field", () -> Fields.rounds(90, 90, 3), x -> x.sideBits());
    }
}
