import java.util.function.ToLongFunction;

/** Promises 13 to 16, 22 and 23: two, rope, knot, far, moved, longitude. */
final class PromisesOfTwo {
    private static final int ANY = -1000000000;
    private static final int THESE = -2000000000;
    private static final int MIN = Integer.MIN_VALUE;
    private static final int MAX = Integer.MAX_VALUE;

    private PromisesOfTwo() {
    }

    static void holdTwo(Edge e) {
        two(e);
        twoWithout(e);
        rope(e);
        ropeWithout(e);
        knot(e);
        far(e);
    }

    static void holdMoved(Edge e) {
        moved(e);
        movedWithout(e);
        longitude(e);
    }

    /** A call that is refused, with its last number running over all that is asked by it. */
    private static void refused(Edge e, String call, ToLongFunction<Calls> answer, long want) {
        e.nothing(call, Worlds::rich, answer, want);
    }

    /** 0 and 1 apart by 2 and by 5 tenths; nobody else has met. */
    private static Calls twice() {
        return Calls.sky(3, 1, 2).meet(0, 0, 0, 12, 1, 10).meet(1, 0, 0, 15, 1, 10);
    }

    private static void two(Edge e) {
        e.promise(13, "MEETINGS of a and b what 0: how many, 1: APART, 2: SPAN, 3: WIDTH");
        int[] want = {2, 3500, 3000, 3500};
        int[] turned = {2, -3500, 3000, 3500};
        for (int what = 0; what < 4; what++) {
            int w = what;
            e.is("what " + what, twice().two(0, 1, 0, what), want[what]);
            e.is("the other way round, what " + what, twice().two(1, 0, 0, what), turned[what]);
            e.nothing("two, what " + what, PromisesOfTwo::twice, x -> x.two(0, 1, 0, w), want[what]);
        }
    }

    private static void twoWithout(Edge e) {
        e.promise(13, "(1 to 3: -1000000000 without any);");
        for (int what = 0; what < 4; what++) {
            e.is("without any, what " + what, twice().two(0, 2, 0, what), what == 0 ? 0 : ANY);
            e.is("without any, of none, what " + what, twice().two(2, 1, 9999, what), what == 0 ? 0 : ANY);
        }
        Calls one = Calls.sky(2, 1, 1).meet(0, 0, 0, 5, 1, 5);
        for (int what = 1; what < 4; what++) {
            e.is("with one, what " + what, one.two(0, 1, 0, what), what == 3 ? 1000 : 0);
        }
        e.promise(13, "-2000000000 without these.");
        int[][] wrong = {{0, 0, 0, 0}, {3, 3, 0, 0}, {-1, 0, 0, 0}, {0, -1, 0, 0}, {4, 0, 0, 0}, {0, 4, 0, 0},
            {0, 1, -1, 0}, {0, 1, 10000, 0}, {0, 1, 0, -1}, {0, 1, 0, 4}, {MIN, 0, 0, 0}, {0, MAX, 0, 0},
            {0, 1, MIN, 0}, {0, 1, MAX, 0}, {0, 1, 0, MIN}, {0, 1, 0, MAX}, {0, 0, 0, 1}, {0, 4, 0, 1}, {0, 1, -1, 3},
            {0, 2, 0, 4}};
        for (int[] w : wrong) {
            refused(e, "two" + java.util.Arrays.toString(w), x -> x.two(w[0], w[1], w[2], w[3]), THESE);
        }
        e.is("the first and the last", Worlds.rich().two(0, 3, 9999, 0), 0);
    }

    /** 0 and 1 have met, 1 and 2 have; 3 has met nobody. */
    private static Calls chain() {
        return Calls.sky(4, 1, 2).meet(0, 0, 0, 12, 1, 10).meet(1, 0, 1, 15, 2, 10);
    }

    private static void rope(Edge e) {
        e.promise(14, "The ROPE from a to b what 0: links (-2: none), 1: LEAN, 2: WIDTH");
        int[][] want = {{0, 0, 0}, {1, 2000, 1000}, {2, 7000, 2000}};
        for (int b = 0; b < 3; b++) {
            for (int what = 0; what < 3; what++) {
                int to = b;
                int w = what;
                e.is("from 0 to " + b + ", what " + what, chain().rope(0, b, 0, what), want[b][what]);
                e.nothing("rope to " + b, PromisesOfTwo::chain, x -> x.rope(0, to, 0, w), want[b][what]);
            }
        }
        e.is("none", chain().rope(0, 3, 0, 0), -2);
        e.is("none, from the other end", chain().rope(3, 0, 0, 0), -2);
    }

    private static void ropeWithout(Edge e) {
        e.promise(14, "(1, 2: -1000000000 without one);");
        for (int what = 1; what < 3; what++) {
            e.is("without one, what " + what, chain().rope(0, 3, 0, what), ANY);
            e.is("without one, from the other end, what " + what, chain().rope(3, 2, 0, what), ANY);
            e.is("to himself there is one, what " + what, chain().rope(3, 3, 0, what), 0);
        }
        e.promise(14, "-2000000000 without these.");
        int[][] wrong = {{-1, 0, 0, 0}, {0, -1, 0, 0}, {-1, -1, 0, 0}, {4, 0, 0, 0}, {0, 4, 0, 0}, {4, 4, 0, 0},
            {0, 1, -1, 0}, {0, 1, 10000, 0}, {0, 1, 0, -1}, {0, 1, 0, 3}, {MIN, 0, 0, 0}, {0, MAX, 0, 0},
            {0, 1, MIN, 0}, {0, 1, MAX, 0}, {0, 1, 0, MIN}, {0, 1, 0, MAX}, {0, 0, -1, 0}, {0, 0, 0, 3}, {0, 3, 0, 3}};
        for (int[] w : wrong) {
            refused(e, "rope" + java.util.Arrays.toString(w), x -> x.rope(w[0], w[1], w[2], w[3]), THESE);
        }
    }

    private static void knot(Edge e) {
        e.promise(15, "OBSERVER k of that ROPE (a is 0);");
        for (int k = 0; k < 3; k++) {
            e.is("knot " + k, chain().knot(0, 2, 0, k), k);
            e.is("knot " + k + " from the other end", chain().knot(2, 0, 0, k), 2 - k);
            int at = k;
            e.nothing("knot " + k, PromisesOfTwo::chain, x -> x.knot(0, 2, 0, at), k);
        }
        e.is("of himself", chain().knot(3, 3, 0, 0), 3);
        e.promise(15, "NONE without it.");
        e.range("knots of two links", 0, 2, k -> chain().knot(2, 0, 0, k), -1);
        e.range("knots of no links", 0, 0, k -> chain().knot(3, 3, 0, k), 3, -1);
        int[][] wrong = {{0, 3, 0, 0}, {3, 0, 0, 0}, {3, 0, 0, 1}, {-1, 0, 0, 0}, {0, -1, 0, 0}, {4, 0, 0, 0},
            {0, 4, 0, 0}, {4, 4, 0, 0}, {0, 1, -1, 0}, {0, 1, 10000, 0}, {MIN, 0, 0, 0}, {0, MAX, 0, 0}, {0, 1, MIN, 0},
            {0, 0, -1, 0},
            {0, 1, 61, -1}, {0, 1, 61, 16}, {0, 1, 61, MIN}, {0, 1, 61, MAX}};
        for (int[] w : wrong) {
            refused(e, "knot" + java.util.Arrays.toString(w), x -> x.knot(w[0], w[1], w[2], w[3]), -1);
        }
    }

    private static void far(Edge e) {
        e.promise(16, "OBSERVERS without a ROPE from a, as bits;");
        e.is("one alone", Worlds.withObservers(1).far(0, 0), 0);
        for (int i = 0; i < 16; i++) {
            e.is("sixteen, none met, from " + i, Worlds.withObservers(16).far(i, 0), 65535 - (1 << i));
        }
        int[] want = {8, 8, 8, 7};
        for (int i = 0; i < 4; i++) {
            int a = i;
            e.is("from " + i, chain().far(i, 0), want[i]);
            e.nothing("far from " + i, PromisesOfTwo::chain, x -> x.far(a, 0), want[i]);
        }
        Calls last = Calls.sky(16, 1, 1).meet(0, 0, 0, 5, 15, 5);
        e.is("the first and the last met", last.far(0, 0), 32766);
        e.is("the last and the first met", last.far(15, 0), 32766);
        e.promise(16, "NONE without these.");
        int[][] wrong = {{-1, 0}, {4, 0}, {MIN, 0}, {MAX, 0}, {0, -1}, {0, 10000}, {0, MIN}, {0, MAX}};
        for (int[] w : wrong) {
            refused(e, "far" + java.util.Arrays.toString(w), x -> x.far(w[0], w[1]), -1);
        }
        e.is("of nobody", new Calls().far(0, 0), -1);
        e.is("of the last", Worlds.withObservers(16).far(15, 0), 32767);
        e.is("of one behind the last", Worlds.withObservers(16).far(16, 0), -1);
    }

    private static void moved(Edge e) {
        e.promise(22, "MOVED what 0: what it says then, 1: 1 if it is PAST, else 0;");
        // 0 leans 2000 to 1, and 7000 to 2; the ropes are 1000 and 2000 wide
        int[][] want = {{12000, 0}, {10000, 1}, {5000, 1}};
        for (int z = 0; z < 3; z++) {
            for (int what = 0; what < 2; what++) {
                int to = z;
                int w = what;
                e.is("to " + z + ", what " + what, chain().moved(0, 0, 0, 0, z, 0, what), want[z][what]);
                e.nothing("moved to " + z, PromisesOfTwo::chain, x -> x.moved(0, 0, 0, 0, to, 0, w), want[z][what]);
            }
        }
        e.is("by just the width", Calls.sky(2, 1, 1).meet(0, 0, 0, 6, 1, 5).moved(0, 0, 0, 0, 1, 0, 1), 0);
    }

    private static void movedWithout(Edge e) {
        e.promise(22, "or no ROPE;");
        for (int what = 0; what < 2; what++) {
            e.is("no rope, what " + what, chain().moved(0, 0, 0, 0, 3, 0, what), ANY);
            Calls x = chain();
            x.clock(1);
            x.strike(3);
            e.is("its last link struck, what " + what, x.moved(0, 0, 0, 0, 2, 1, what), ANY);
            e.is("before it was, what " + what, x.moved(0, 0, 0, 0, 2, 0, what), what == 0 ? 5000 : 1);
            int asked = what;
            e.nothing("no rope, what " + what, PromisesOfTwo::chain, y -> y.moved(0, 0, 0, 0, 3, 0, asked), ANY);
        }
        e.promise(22, "-1000000000: nothing SEEN,");
        for (int what = 0; what < 2; what++) {
            e.is("nothing seen, what " + what, chain().moved(2, 0, 0, 0, 1, 0, what), ANY);
            e.is("nothing seen, to himself, what " + what, chain().moved(3, 0, 0, 0, 3, 0, what), ANY);
            e.is("nothing seen in that way, what " + what, chain().moved(0, 0, 0, 1, 1, 0, what), ANY);
            Calls x = chain();
            x.clock(1);
            x.strike(0);
            e.is("struck, what " + what, x.moved(0, 0, 0, 0, 0, 1, what), ANY);
            e.is("before it was struck, what " + what, x.moved(0, 0, 0, 0, 0, 0, what), what == 0 ? 12000 : 0);
        }
        e.promise(22, "-2000000000 without these.");
        int[][] wrong = {{-1, 0, 0, 0, 0, 0, 0}, {4, 0, 0, 0, 0, 0, 0}, {0, -1, 0, 0, 0, 0, 0}, {0, 4, 0, 0, 0, 0, 0},
            {0, 0, -1, 0, 0, 0, 0}, {0, 0, 2, 0, 0, 0, 0}, {0, 0, 0, -1, 0, 0, 0}, {0, 0, 0, 5, 0, 0, 0},
            {0, 0, 0, 0, -1, 0, 0}, {0, 0, 0, 0, 4, 0, 0}, {0, 0, 0, 0, 0, -1, 0}, {0, 0, 0, 0, 0, 10000, 0},
            {0, 0, 0, 0, 0, 0, -1}, {0, 0, 0, 0, 0, 0, 2}, {MIN, 0, 0, 0, 0, 0, 0}, {0, MAX, 0, 0, 0, 0, 0},
            {0, 0, MIN, 0, 0, 0, 0}, {0, 0, 0, MAX, 0, 0, 0}, {0, 0, 0, 0, MAX, 0, 0}, {0, 0, 0, 0, 0, MIN, 0},
            {0, 0, 0, 0, 0, 0, MAX}, {0, 0, 0, 5, 0, 0, 1}};
        for (int[] w : wrong) {
            refused(e, "moved" + java.util.Arrays.toString(w),
                x -> x.moved(w[0], w[1], w[2], w[3], w[4], w[5], w[6]), THESE);
        }
    }

    /** Observer 0 at both houses. */
    private static Calls houses() {
        Calls x = new Calls().observers(1).stars(1, 10);
        x.night(0, 0);
        x.night(1, 0);
        x.sees(0, 0, 0, 10);
        x.sees(0, 1, 0, 17);
        return x;
    }

    private static void longitude(Edge e) {
        e.promise(23, "LONGITUDE what 0: in thousandths (-1000000000 without any), 1: how many;");
        e.is("in thousandths", houses().longitude(0, 1, 0, 0), 7000);
        e.is("how many", houses().longitude(0, 1, 0, 1), 1);
        e.is("in thousandths, the other way round", houses().longitude(1, 0, 0, 0), -7000);
        e.is("without any", houses().longitude(0, 2, 0, 0), ANY);
        e.is("without any, how many", houses().longitude(0, 2, 0, 1), 0);
        e.is("of a new object", new Calls().longitude(2, 3, 0, 0), ANY);
        Calls zero = houses();
        zero.sees(0, 1, 0, 3);
        e.is("of one that is 0", zero.longitude(0, 1, 0, 0), 0);
        e.nothing("longitude", PromisesOfTwo::houses, x -> x.longitude(0, 1, 0, 0), 7000);
        e.promise(23, "-2000000000 without these.");
        int[][] wrong = {{0, 0, 0, 0}, {3, 3, 0, 1}, {-1, 0, 0, 0}, {0, -1, 0, 0}, {4, 0, 0, 0}, {0, 4, 0, 0},
            {0, 1, -1, 0}, {0, 1, 10000, 0}, {0, 1, 0, -1}, {0, 1, 0, 2}, {MIN, 0, 0, 0}, {0, MAX, 0, 0},
            {0, 1, MIN, 1},
            {0, 1, MAX, 0}, {0, 1, 0, MIN}, {0, 1, 0, MAX}};
        for (int[] w : wrong) {
            refused(e, "longitude" + java.util.Arrays.toString(w), x -> x.longitude(w[0], w[1], w[2], w[3]), THESE);
        }
    }
}
