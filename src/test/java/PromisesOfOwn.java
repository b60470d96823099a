import java.util.Arrays;

/** Promises 17 to 21: own, left, best, scatter, finest. */
final class PromisesOfOwn {
    private static final int ANY = -1000000000;
    private static final int THESE = -2000000000;
    private static final int MIN = Integer.MIN_VALUE;
    private static final int MAX = Integer.MAX_VALUE;

    private PromisesOfOwn() {
    }

    static void hold(Edge e) {
        own(e);
        ownWithout(e);
        left(e);
        best(e);
        still(e);
        bestWithout(e);
        scatter(e);
        finest(e);
    }

    /** Late by 3 and 4 in year 0, by 9 in the last year; observer 1 has none. */
    private static Calls years() {
        Calls x = new Calls().observers(2).stars(1, 10);
        x.clock(9999);
        x.night(0, 0);
        x.night(0, 9999);
        x.feigns(0, 0, 0, 103, 100);
        x.feigns(0, 0, 0, 104, 100);
        x.feigns(0, 1, 0, 109, 100);
        return x;
    }

    private static void own(Edge e) {
        e.promise(17, "OWN of a YEAR (NONE: all) what 0: how many, 1: LATE, 2: the greatest less the least");
        int[][] want = {{-1, 3, 5333, 6}, {0, 2, 3500, 1}, {192, 1, 9000, 0}};
        for (int[] w : want) {
            for (int what = 0; what < 3; what++) {
                int asked = what;
                e.is("of year " + w[0] + ", what " + what, years().own(0, w[0], 9999, what), w[what + 1]);
                e.nothing("own of year " + w[0], PromisesOfOwn::years, x -> x.own(0, w[0], 9999, asked), w[what + 1]);
            }
        }
        e.is("before they are known", years().own(0, -1, 9998, 0), 0);
    }

    private static void ownWithout(Edge e) {
        e.promise(17, "(1, 2: -1000000000 without any);");
        for (int what = 0; what < 3; what++) {
            int none = what == 0 ? 0 : ANY;
            e.is("of a year without any, what " + what, years().own(0, 1, 9999, what), none);
            e.is("of the year before the last, what " + what, years().own(0, 191, 9999, what), none);
            e.is("of one without any, what " + what, years().own(1, -1, 9999, what), none);
            e.is("not yet known, what " + what, years().own(0, 0, 9998, what), none);
        }
        Calls zero = Worlds.oneOfEach();
        zero.feigns(0, 0, 0, 5, 5);
        for (int what = 1; what < 3; what++) {
            e.is("of one that is not late, what " + what, zero.own(0, -1, 0, what), 0);
        }
        e.promise(17, "-2000000000 without these.");
        int[][] wrong = {{-1, -1, 0, 0}, {4, -1, 0, 0}, {MIN, -1, 0, 0}, {MAX, -1, 0, 0}, {0, -2, 0, 0}, {0, 193, 0, 0},
            {0, MIN, 0, 0}, {0, MAX, 0, 0}, {0, -1, -1, 0}, {0, -1, 10000, 0}, {0, -1, MIN, 0}, {0, -1, MAX, 0},
            {0, -1, 0, -1}, {0, -1, 0, 3}, {0, -1, 0, MIN}, {0, -1, 0, MAX}, {4, -1, 0, 1}, {0, -2, 0, 2}};
        for (int[] w : wrong) {
            e.nothing("own" + Arrays.toString(w), Worlds::rich, x -> x.own(w[0], w[1], w[2], w[3]), THESE);
        }
        e.range("years, and NONE", -1, 192, year -> years().own(0, year, 9999, 0), THESE);
        e.range("observers", 0, 1, o -> years().own(o, -1, 9999, 0), THESE);
    }

    private static void left(Edge e) {
        e.promise(18, "LEFT;");
        Calls x = years();
        x.law("lean 4000");
        e.is("of three", x.left(0, 0, 9999), 1000000L + 0 + 25000000L);
        e.is("of none yet known", x.left(0, 0, 9998), 0);
        e.is("of one without any", x.left(1, 0, 9999), 0);
        e.nothing("left", Worlds::rich, y -> y.left(0, 1, 61), 10500L * 10500 + 1500L * 1500 + 7500L * 7500);
        e.promise(18, "NONE without these.");
        int[][] wrong = {{-1, 0, 0}, {4, 0, 0}, {MIN, 0, 0}, {MAX, 0, 0}, {0, -1, 0}, {0, 2, 0}, {0, MIN, 0},
            {0, MAX, 0}, {0, 0, -1}, {0, 0, 10000}, {0, 0, MIN}, {0, 0, MAX}};
        for (int[] w : wrong) {
            e.nothing("left" + Arrays.toString(w), Worlds::rich, y -> y.left(w[0], w[1], w[2]), -1);
        }
        e.is("without laws", years().left(0, 0, 0), -1);
        e.is("the last of both", Worlds.rich().left(3, 1, 9999), 0);
    }

    private static void best(Edge e) {
        e.promise(19, "BEST (what 0; NONE without LAWS),");
        e.is("without laws", years().best(0, 9999, 0, 0), -1);
        e.is("without laws, of one without any", years().best(1, 0, 900, 0), -1);
        Calls x = years();
        x.law("lean 9000");
        e.is("with one", x.best(0, 9999, 0, 0), 0);
        x.law("lean 5333");
        e.is("with two", x.best(0, 9999, 0, 0), 1);
        e.is("it is the same by any p", x.best(0, 9999, 900, 0), 1);
        e.is("of one without any, the least", x.best(1, 9999, 0, 0), 0);
        e.nothing("best", Worlds::rich, y -> y.best(0, 61, 0, 0), 0);
    }

    private static void still(Edge e) {
        e.promise(19, "STILL by p as bits (what 1; p 0 to 900);");
        e.is("without laws", years().best(0, 9999, 0, 1), 0);
        Calls x = Worlds.oneOfEach();
        x.feigns(0, 0, 0, 5, 5);
        for (int give : new int[] {10, 11, 31, 32}) {
            x.law("lean " + give);
        }
        e.is("by 0", x.best(0, 0, 0, 1), 1);
        e.is("by 1", x.best(0, 0, 1, 1), 1);
        e.is("by 21", x.best(0, 0, 21, 1), 3);
        e.is("by 860", x.best(0, 0, 860, 1), 3);
        e.is("by 899", x.best(0, 0, 899, 1), 7);
        e.is("by 900", x.best(0, 0, 900, 1), 7);
        e.is("by 901", x.best(0, 0, 901, 1), -2);
        e.is("by -1", x.best(0, 0, -1, 1), -2);
        e.range("p, still", 0, 900, p -> Worlds.rich().best(0, 61, p, 1), -2);
        e.range("p, best", 0, 900, p -> Worlds.rich().best(0, 61, p, 0), -2);
        e.nothing("still", Worlds::rich, y -> y.best(0, 61, 900, 1), 3);
    }

    private static void bestWithout(Edge e) {
        e.promise(19, "-2 without these.");
        int[][] wrong = {{-1, 0, 0, 0}, {4, 0, 0, 0}, {MIN, 0, 0, 0}, {MAX, 0, 0, 0}, {0, -1, 0, 0}, {0, 10000, 0, 0},
            {0, MIN, 0, 0}, {0, MAX, 0, 0}, {0, 0, -1, 0}, {0, 0, 901, 0}, {0, 0, MIN, 0}, {0, 0, MAX, 0},
            {0, 0, 0, -1},
            {0, 0, 0, 2}, {0, 0, 0, MIN}, {0, 0, 0, MAX}};
        for (int[] w : wrong) {
            e.nothing("best" + Arrays.toString(w), Worlds::rich, x -> x.best(w[0], w[1], w[2], w[3]), -2);
            boolean ofWhat = w[3] != 0;
            e.is("the same of STILL", Worlds.rich().best(w[0], w[1], w[2], ofWhat ? w[3] : 1), -2);
            e.is("the same without laws", years().best(w[0], w[1], w[2], w[3]), -2);
        }
        e.is("the last observer and week", Worlds.rich().best(3, 9999, 900, 1), 3);
    }

    /** By eye and ear 100 and 101 at two threads, by key at one thread alone. */
    private static Calls twoThreads() {
        Calls x = Worlds.oneOfEach();
        x.sees(0, 0, 0, 100);
        x.record(0, 0, 3, 0, 0, 111, -1);
        x.record(0, 0, 3, 0, 1, 111, -1);
        return x;
    }

    private static void scatter(Edge e) {
        e.promise(20, "SCATTER; -2: none;");
        e.is("of two threads", twoThreads().scatter(0, 0), 500);
        for (int way = 1; way < 5; way++) {
            e.is("none, of way " + way, twoThreads().scatter(way, 0), -2);
        }
        e.is("none, of a new object", new Calls().scatter(0, 0), -2);
        Calls zero = Worlds.oneOfEach();
        zero.record(0, 0, 1, 0, 2, 90, -1);
        zero.record(0, 0, 2, 0, 2, 100, -1);
        e.is("one that is 0", zero.scatter(2, 0), 0);
        e.nothing("scatter", PromisesOfOwn::twoThreads, x -> x.scatter(0, 0), 500);
        e.promise(20, "NONE without these.");
        int[][] wrong = {{-1, 0}, {5, 0}, {MIN, 0}, {MAX, 0}, {0, -1}, {0, 10000}, {0, MIN}, {0, MAX}};
        for (int[] w : wrong) {
            e.nothing("scatter" + Arrays.toString(w), Worlds::rich, x -> x.scatter(w[0], w[1]), -1);
        }
        e.is("the last of both", new Calls().scatter(4, 9999), -2);
    }

    private static void finest(Edge e) {
        e.promise(21, "The FINEST WAY; -2: none;");
        e.is("the only one", twoThreads().finest(0), 0);
        e.is("none", new Calls().finest(0), -2);
        e.is("none, of the last week", new Calls().finest(9999), -2);
        Calls x = twoThreads();
        x.clock(1);
        x.record(0, 0, 2, 0, 1, 101, -1);
        e.is("one without any scatter", x.finest(1), 1);
        e.is("before it was known", x.finest(0), 0);
        x.clock(2);
        x.strike(1);
        e.is("the other one struck", x.finest(2), 1);
        x.strike(2);
        e.is("both struck", x.finest(2), -2);
        e.nothing("finest", PromisesOfOwn::twoThreads, y -> y.finest(0), 0);
        e.promise(21, "NONE without it.");
        for (int known : new int[] {MIN, -1, 10000, MAX}) {
            e.nothing("finest(" + known + ")", Worlds::rich, y -> y.finest(known), -1);
        }
    }
}
