/** Long runs of mixed calls, right and wrong ones, on the class and on the model side by side. */
public final class PegfieldModelRuns {
    private static long seed = 20261118;
    private static final int[] ODD_ONES = {-1, 12, 91, 32768, Integer.MIN_VALUE, Integer.MAX_VALUE, 1 << 16};

    public static void main(String[] args) {
        for (int run = 0; run < 600; run++) {
            Pegfield x = new Pegfield();
            PegfieldModel m = new PegfieldModel();
            // The calls of a run that are not wrong on purpose ask for fewer pegs, so that more of them stand.
            int pegs = 1 + next(12);
            int places = run % 3 == 0 ? 4 : 91;
            for (int call = 0; call < 255; call++) {
                one(x, m, pegs, places);
                Check.due("run " + run + " checksum", m.checksum(), () -> x.checksum());
            }
        }
        Check.end("PegfieldModelRuns");
    }

    private static int next(int bound) {
        seed = seed * 6364136223846793005L + 1442695040888963407L;
        return (int) ((seed >>> 33) % bound);
    }

    private static int pick(int bound) {
        return next(24) == 0 ? ODD_ONES[next(ODD_ONES.length)] : next(bound);
    }

    private static void one(Pegfield x, PegfieldModel m, int pegs, int places) {
        int p = pick(pegs);
        int q = pick(pegs);
        int r = pick(pegs);
        int n = next(4) == 0 ? pick(40) : pick(32768);
        int h = next(4) == 0 ? n + next(9) : pick(32768);
        boolean b = next(2) == 0;
        int a = pick(places);
        int u = pick(places);
        char w = "nsewnsewnsewnsewNx".charAt(next(18));
        int kind = next(44);
        if (kind < 16) {
            onPegs(kind, x, m, new int[] {p, a, u}, w, b);
        } else if (kind < 25) {
            onStretches(kind, x, m, new int[] {p, q, r, n}, b);
        } else if (kind < 32) {
            onRoots(kind, x, m, n, h, b);
        } else {
            onRing(kind, x, m, p, next(13) - next(2));
        }
    }

    private static void onPegs(int kind, Pegfield x, PegfieldModel m, int[] at, char way, boolean isWide) {
        int p = at[0];
        switch (kind) {
            case 0 -> Check.due("take", Check.answer(() -> m.take(p)), () -> { x.take(p); return "nothing"; });
            case 1, 2, 3 -> Check.due("step", Check.answer(() -> m.step(p, way)), () -> x.step(p, way));
            case 4 -> Check.due("isThere", Check.answer(() -> m.isThere(p)), () -> x.isThere(p));
            case 5 -> Check.due("placeOf", Check.answer(() -> m.placeOf(p)), () -> x.placeOf(p));
            case 6 -> Check.due("count", m.count(), () -> x.count());
            case 7 -> Check.due("widen", m.widen(isWide), () -> x.widen(isWide));
            default -> Check.due("put", Check.answer(() -> m.put(p, at[1], at[2])), () -> x.put(p, at[1], at[2]));
        }
    }

    private static void onStretches(int kind, Pegfield x, PegfieldModel m, int[] of, boolean isQuarter) {
        int p = of[0];
        int q = of[1];
        int r = of[2];
        switch (kind) {
            case 16 -> Check.due("isSteady", Check.answer(() -> m.holds(p, q)), () -> x.isSteady(p, q));
            case 17 -> Check.due("isDoubled", Check.answer(() -> m.holds(p, q)), () -> x.isDoubled(p, q));
            case 18 -> Check.due("isClose", Check.answer(() -> m.holds(p, q)), () -> x.isClose(p, q));
            case 19 -> Check.due("isStraight", Check.answer(() -> m.isStraight(p, q, r)), () -> x.isStraight(p, q, r));
            case 20 -> Check.due("nearest", Check.answer(() -> m.nearest(p)), () -> x.nearest(p));
            case 21 -> Check.due("rank", Check.answer(() -> m.rank(p, q)), () -> x.rank(p, q));
            case 22, 23 -> Check.due("isIn", Check.answer(() -> m.isIn(p, q, of[3], isQuarter)),
                    () -> x.isIn(p, q, of[3], isQuarter));
            default -> Check.due("stretch", Check.answer(() -> m.stretch(p, q)), () -> x.stretch(p, q));
        }
    }

    private static void onRoots(int kind, Pegfield x, PegfieldModel m, int n, int high, boolean b) {
        switch (kind) {
            case 25 -> Check.due("root", Check.answer(() -> m.root(n, b)), () -> x.root(n, b));
            case 26 -> Check.due("rootBits", Check.answer(() -> m.rootBits(n, b)), () -> x.rootBits(n, b));
            case 27 -> Check.due("rootGrains", Check.answer(() -> m.rootGrains(n, b)), () -> x.rootGrains(n, b));
            case 28 -> Check.due("wholeRoot", Check.answer(() -> m.wholeRoot(n)), () -> x.wholeRoot(n));
            case 29 -> Check.due("isNearest", Check.answer(() -> m.holdsFor(n)), () -> x.isNearest(n, b));
            case 30 -> Check.due("isHalved", Check.answer(() -> m.holdsFor(n)), () -> x.isHalved(n));
            default -> Check.due("between", Check.answer(() -> m.between(n, high, b)), () -> x.between(n, high, b));
        }
    }

    private static void onRing(int kind, Pegfield x, PegfieldModel m, int p, int place) {
        switch (kind) {
            case 32 -> Check.due("unjoin", Check.answer(() -> m.unjoin()), () -> x.unjoin());
            case 33 -> Check.due("ringAt", Check.answer(() -> m.ringAt(place)), () -> x.ringAt(place));
            case 34 -> Check.due("around", m.around(), () -> x.around());
            case 35 -> Check.due("doubleArea", m.doubleArea(), () -> x.doubleArea());
            case 36, 37 -> Check.due("sideBits", Check.answer(() -> m.sideBits()), () -> x.sideBits());
            case 38 -> Check.due("isSound", true, () -> x.isSound());
            default -> Check.due("join", Check.answer(() -> m.join(p)), () -> x.join(p));
        }
    }
}
