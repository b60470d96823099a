import java.util.Arrays;

/** Promises 24 to 28: journey, tied, plan, next, said. */
final class PromisesOfJourneys {
    private static final int MIN = Integer.MIN_VALUE;
    private static final int MAX = Integer.MAX_VALUE;

    private PromisesOfJourneys() {
    }

    static void hold(Edge e) {
        journey(e);
        tied(e);
        plan(e);
        next(e);
        said(e);
        saidAboveSixty(e);
    }

    private static void journey(Edge e) {
        e.promise(24, "A JOURNEY: its number;");
        Calls x = new Calls().observers(16);
        for (int i = 0; i < 9; i++) {
            e.is("journey " + i, x.journey(i, 15, i == 0 ? 1 : 99), i);
            e.is("how many then", x.count(6), i + 1);
        }
        e.promise(24, "NONE: there are 9,");
        e.nothing("the tenth", () -> Worlds.withJourneys(9), y -> y.journey(0, 1, 1), -1);
        e.is("the ninth", Worlds.withJourneys(8).journey(0, 1, 1), 8);
        Calls back = Worlds.withJourneys(8);
        back.mark(0);
        back.journey(0, 1, 1);
        e.is("there are 9", back.journey(0, 1, 1), -1);
        back.back(0);
        e.is("gone back, the number again", back.journey(0, 1, 1), 8);
        e.promise(24, "or something is not as told.");
        int[][] wrong = {{-1, 0, 1}, {4, 0, 1}, {MIN, 0, 1}, {MAX, 0, 1}, {0, -1, 1}, {0, 4, 1}, {0, MIN, 1},
            {0, MAX, 1}, {0, 0, 1}, {3, 3, 1}, {-1, -1, 1}, {0, 1, 0}, {0, 1, 100}, {0, 1, -1}, {0, 1, MIN},
            {0, 1, MAX}};
        for (int[] w : wrong) {
            e.nothing("journey" + Arrays.toString(w), Worlds::rich, y -> y.journey(w[0], w[1], w[2]), -1);
        }
        e.is("the first and the last", Worlds.rich().journey(0, 3, 99), 2);
        e.is("the last and the first", Worlds.rich().journey(3, 0, 1), 2);
    }

    private static void tied(Edge e) {
        e.promise(25, "TIED with a set of JOURNEYS made (bits);");
        Calls x = new Calls().observers(10);
        for (int i = 0; i < 9; i++) {
            e.is("none made of " + i, x.tied(0), 0);
            x.journey(i, i + 1, 1);
            e.is("the last made of " + (i + 1), x.tied(1 << i), 1);
            e.is("all made of " + (i + 1), x.tied((1 << i + 1) - 1), (i + 1) * (i + 2) / 2);
        }
        e.nothing("tied", Worlds::rich, y -> y.tied(3), 6);
        e.promise(25, "NONE without these.");
        e.range("sets of none", 0, 0, set -> Worlds.withJourneys(0).tied(set), 0, -1);
        for (int n = 1; n <= 9; n++) {
            int journeys = n;
            e.range("sets of " + n, 0, (1 << n) - 1, set -> Worlds.withJourneys(journeys).tied(set), -1);
        }
        for (int set : new int[] {4, 5, 512, 1 << 30, MIN, -1, MAX}) {
            e.nothing("tied(" + set + ") of two journeys", Worlds::rich, y -> y.tied(set), -1);
        }
    }

    private static void plan(Edge e) {
        e.promise(26, "PLAN (0 to 999 weeks) what 0: the set, 1: TIED then, 2: the weeks;");
        // journeys of 4 and of 6 weeks, all but 3 having met
        int[][] want = {{0, 0, 3, 0}, {1, 0, 3, 0}, {3, 0, 3, 0}, {4, 1, 6, 4}, {5, 1, 6, 4}, {998, 1, 6, 4},
            {999, 1, 6, 4}};
        for (int[] w : want) {
            for (int what = 0; what < 3; what++) {
                int asked = what;
                e.nothing("plan for " + w[0] + ", what " + what, Worlds::rich, x -> x.plan(w[0], asked), w[what + 1]);
            }
        }
        for (int what = 0; what < 3; what++) {
            int asked = what;
            e.range("weeks, what " + what, 0, 999, weeks -> Worlds.rich().plan(weeks, asked), -1);
        }
        e.is("without journeys, the set", new Calls().plan(999, 0), 0);
        e.is("without journeys, tied", new Calls().plan(999, 1), 0);
        e.is("without journeys, weeks", new Calls().plan(999, 2), 0);
        e.promise(26, "NONE without these.");
        int[][] wrong = {{-1, 0}, {1000, 0}, {MIN, 0}, {MAX, 0}, {0, -1}, {0, 3}, {0, MIN}, {0, MAX}, {-1, 1},
            {1000, 2},
            {999, 3}};
        for (int[] w : wrong) {
            e.nothing("plan" + Arrays.toString(w), Worlds::rich, x -> x.plan(w[0], w[1]), -1);
        }
    }

    private static void next(Edge e) {
        e.promise(27, "NEXT: 16 * a + b;");
        for (int a = 0; a < 14; a++) {
            for (int b = a + 1; b < 14; b++) {
                e.is("of " + a + " and " + b, nextOf(a, b), 16 * a + b);
            }
        }
        e.nothing("next", Worlds::rich, Calls::next, 3);
        e.promise(27, "-2: all are TIED.");
        e.is("of nobody", new Calls().next(), -2);
        e.is("of one", Worlds.withObservers(1).next(), -2);
        e.is("of two who have not met", Worlds.withObservers(2).next(), 1);
        e.nothing("next of two who met", () -> Calls.sky(2, 1, 1).meet(0, 0, 0, 5, 1, 5), Calls::next, -2);
        Calls all = Calls.sky(16, 1, 1);
        for (int i = 0; i < 15; i++) {
            all.sees(i, 0, 0, 5);
        }
        e.is("of fifteen who met, and one", all.next(), 15);
        all.sees(15, 0, 0, 5);
        e.is("of sixteen who met", all.next(), -2);
        all.clock(1);
        all.strike(7);
        e.is("of sixteen, one struck", all.next(), 7);
    }

    /** a has met 14, and b 15; all others are alone: these two together tie most. */
    private static int nextOf(int a, int b) {
        return Calls.sky(16, 1, 2).meet(0, 0, a, 5, 14, 5).meet(1, 0, b, 5, 15, 5).next();
    }

    private static Calls tossed(int n) {
        Calls x = Calls.sky(2, 1, Math.max(1, n));
        for (int i = 0; i < n; i++) {
            x.meet(i, 0, 0, 6, 1, 5);
        }
        return x;
    }

    private static void said(Edge e) {
        e.promise(28, "SAID part 0: those ways, 1: all;");
        e.is("without meetings, those ways", tossed(0).said(0, 1, 0, 0), 1);
        e.is("without meetings, all", tossed(0).said(0, 1, 0, 1), 1);
        for (int n : new int[] {1, 2, 31, 32, 59, 60}) {
            e.is("of " + n + ", all above: those ways", tossed(n).said(0, 1, 0, 0), 1);
            e.is("of " + n + ", none above: those ways", tossed(n).said(1, 0, 0, 0), 1L << n);
            e.is("of " + n + ", all", tossed(n).said(0, 1, 0, 1), 1L << n);
        }
        e.nothing("said", Worlds::rich, x -> x.said(0, 1, 61, 0), 3);
    }

    private static void saidAboveSixty(Edge e) {
        e.promise(28, "-2: n is above 60;");
        for (int part = 0; part < 2; part++) {
            e.is("of 60, part " + part, tossed(60).said(0, 1, 0, part), part == 0 ? 1 : 1L << 60);
            e.is("of 61, part " + part, tossed(61).said(0, 1, 0, part), -2);
            e.is("of 61 the other way round, part " + part, tossed(61).said(1, 0, 0, part), -2);
            e.is("of 80, part " + part, tossed(80).said(0, 1, 0, part), -2);
        }
        Calls same = tossed(60);
        same.night(0, 0);
        same.meet(60, 0, 0, 5, 1, 5);
        e.is("of 60, and one that is 0", same.said(0, 1, 0, 1), 1L << 60);
        Calls struck = tossed(61);
        struck.clock(1);
        struck.strike(0);
        e.is("of 61, one struck", struck.said(0, 1, 1, 1), 1L << 60);
        e.is("of 61, before", struck.said(0, 1, 0, 1), -2);
        e.promise(28, "NONE without these.");
        int[][] wrong = {{0, 0, 0, 0}, {3, 3, 0, 0}, {-1, 0, 0, 0}, {0, -1, 0, 0}, {4, 0, 0, 0}, {0, 4, 0, 0},
            {0, 1, -1, 0}, {0, 1, 10000, 0}, {0, 1, 0, -1}, {0, 1, 0, 2}, {MIN, 0, 0, 0}, {0, MAX, 0, 0},
            {0, 1, MIN, 0},
            {0, 1, MAX, 1}, {0, 1, 0, MIN}, {0, 1, 0, MAX}};
        for (int[] w : wrong) {
            e.nothing("said" + Arrays.toString(w), Worlds::rich, x -> x.said(w[0], w[1], w[2], w[3]), -1);
        }
        e.is("of 61, without these", tossed(61).said(0, 1, 0, 2), -1);
    }
}
