/** Term IV: each one's own lean, what is left by a law, scatter. */
final class TermFour {
    private TermFour() {
    }

    static void hold(Edge e) {
        own(e);
        ownOf(e);
        left(e);
        best(e);
        still(e);
        stillDownwards(e);
        threads(e);
        scatter(e);
        finest(e);
    }

    private static void own(Edge e) {
        e.term("IV", "OWN of an OBSERVER, as KNOWN in a WEEK: his feigned RECORDS "
            + "(of a YEAR, that of the NIGHT, or all):");
        Calls x = new Calls().observers(2).stars(1, 10);
        x.clock(105);
        for (int week : new int[] {0, 51, 52, 103, 104}) {
            x.night(0, week);
        }
        for (int night = 0; night < 5; night++) {
            x.feigns(0, night, 0, 1 << night, 0);
        }
        for (int way : new int[] {0, 1, 2, 4}) {
            x.record(0, 0, 2, 0, way, 5000, -1);
        }
        x.feigns(1, 0, 0, 9000, 0);
        int[] thousandths = {6200, 1500, 6000, 16000};
        int[] many = {5, 2, 2, 1};
        for (int year = -1; year <= 2; year++) {
            e.is("how many of year " + year, x.own(0, year, 105, 0), many[year + 1]);
            e.is("late of year " + year, x.own(0, year, 105, 1), thousandths[year + 1]);
        }
        e.is("of a year without any", x.own(0, 3, 105, 0), 0);
        e.is("of the other", x.own(1, -1, 105, 0), 1);
        e.is("not yet known", x.own(0, -1, 104, 0), 0);
        // made known in year 2, they are of their night's year
        e.is("of a night's year, known two years later", x.own(0, 0, 105, 0), 2);
        x.clock(106);
        x.strike(4);
        e.is("one struck, before", x.own(0, 2, 105, 0), 1);
        e.is("one struck, from then", x.own(0, 2, 106, 0), 0);
    }

    /** Feigned records of observer 0, so many tenths late each. */
    private static Calls late(int... tenths) {
        Calls x = Worlds.oneOfEach();
        for (int tenth : tenths) {
            x.feigns(0, 0, 0, 5000 + tenth, 5000);
        }
        return x;
    }

    private static void ownOf(Edge e) {
        e.term("IV", "or all): how many,");
        e.is("of none, how many", late().own(0, -1, 0, 0), 0);
        e.is("of one, how many", late(7).own(0, -1, 0, 0), 1);
        e.is("of two alike, how many", late(7, 7).own(0, -1, 0, 0), 2);
        e.term("IV", "LATE in thousandths by how many, downwards,");
        e.is("of one", late(7).own(0, -1, 0, 1), 7000);
        e.is("of one below", late(-7).own(0, -1, 0, 1), -7000);
        e.is("of one at 0", late(0).own(0, -1, 0, 1), 0);
        e.is("of three above", late(1, 0, 0).own(0, -1, 0, 1), 333);
        e.is("of three below", late(-1, 0, 0).own(0, -1, 0, 1), -334);
        e.is("of two below", late(-1, 0).own(0, -1, 0, 1), -500);
        Calls full = Worlds.oneOfEach();
        for (int i = 0; i < 400; i++) {
            full.feigns(0, 0, 0, 0, i == 0 ? 9998 : 9999);
        }
        e.is("of all records, how many", full.own(0, -1, 0, 0), 400);
        e.is("of all records, downwards", full.own(0, -1, 0, 1), -9998998);
        e.term("IV", "the greatest LATE less the least.");
        e.is("of one, greatest less least", late(7).own(0, -1, 0, 2), 0);
        e.is("of one below, greatest less least", late(-7).own(0, -1, 0, 2), 0);
        e.is("of two above, greatest less least", late(7, 9).own(0, -1, 0, 2), 2);
        e.is("of two below, greatest less least", late(-9, -7).own(0, -1, 0, 2), 2);
        e.is("about 0, greatest less least", late(1, 9, -4, 2).own(0, -1, 0, 2), 13);
        Calls far = Worlds.oneOfEach();
        far.feigns(0, 0, 0, 9999, 0);
        e.is("as late as may be", far.own(0, -1, 0, 1), 9999000);
        far.feigns(0, 0, 0, 0, 9999);
        e.is("the greatest less the least as may be", far.own(0, -1, 0, 2), 19998);
    }

    private static void left(Edge e) {
        e.term("IV", "LEFT by a LAW: the squares of 1000 times LATE less what the LAW gives, together.");
        Calls none = late();
        none.law("lean 5");
        e.is("of none", none.left(0, 0, 0), 0);
        Calls x = late(1, -1);
        x.law("lean 0");
        x.law("lean 1000");
        x.law("lean 0-1");
        x.law("lean 1000 if thread = 1");
        e.is("by 0", x.left(0, 0, 0), 2000000);
        e.is("by what fits the one", x.left(0, 1, 0), 4000000);
        e.is("by one thousandth below", x.left(0, 2, 0), 1001L * 1001 + 999L * 999);
        e.is("by a law that gives nothing", x.left(0, 3, 0), 2000000);
        Calls far = Worlds.oneOfEach();
        for (int i = 0; i < 400; i++) {
            far.feigns(0, 0, 0, 9999, 0);
        }
        far.law("lean 0-99999*99999");
        far.law("lean 99999*99999");
        e.is("as much as may be", far.left(0, 0, 0), 400L * 10998999L * 10998999L);
        e.is("with the law's greatest", far.left(0, 1, 0), 400L * 8999001L * 8999001L);
    }

    private static void best(Edge e) {
        e.term("IV", "BEST: the LAW with the least LEFT, of several the least.");
        Calls x = late(0);
        x.law("lean 12");
        e.is("of one", x.best(0, 0, 0, 0), 0);
        x.law("lean 12");
        e.is("of two alike", x.best(0, 0, 0, 0), 0);
        x.law("lean 13");
        e.is("not the wider one", x.best(0, 0, 0, 0), 0);
        x.law("lean 11");
        e.is("the narrower one", x.best(0, 0, 0, 0), 3);
        x.law("lean 0-11");
        e.is("one as narrow behind it", x.best(0, 0, 0, 0), 3);
        for (int i = 0; i < 4; i++) {
            x.law("lean 99");
        }
        x.law("lean 0");
        e.is("the tenth", x.best(0, 0, 0, 0), 9);
        Calls nothing = late();
        nothing.law("lean 12");
        nothing.law("lean 0");
        e.is("of no records", nothing.best(0, 0, 0, 0), 0);
    }

    private static void still(Edge e) {
        e.term("IV", "STILL: LAWS with LEFT not above that by (100 + p) by 100, downwards");
        // left: 100, 121, 144, 961, 1024
        Calls x = late(0);
        for (int give : new int[] {10, 11, 12, 31, 32}) {
            x.law("lean " + give);
        }
        int[][] want = {{0, 1}, {1, 1}, {20, 1}, {21, 3}, {22, 3}, {43, 3}, {44, 7}, {45, 7}, {860, 7}, {861, 15},
            {862, 15}, {899, 15}, {900, 15}};
        for (int[] w : want) {
            e.is("still by " + w[0], x.best(0, 0, w[0], 1), w[1]);
        }
        // the best need not be the first
        Calls y = late(0);
        for (int give : new int[] {11, 20, 10, 10, 32, 1000, 1000, 1000, 1000, 20}) {
            y.law("lean " + give);
        }
        e.is("still by 0", y.best(0, 0, 0, 1), 4 + 8);
        e.is("still by 21", y.best(0, 0, 21, 1), 1 + 4 + 8);
        e.is("still by 299", y.best(0, 0, 299, 1), 1 + 4 + 8);
        e.is("still by 300, the tenth, too", y.best(0, 0, 300, 1), 1 + 2 + 4 + 8 + 512);
        Calls none = late();
        for (int i = 0; i < 10; i++) {
            none.law("lean " + i);
        }
        e.is("all ten, of no records", none.best(0, 0, 0, 1), 1023);
    }

    private static void stillDownwards(Edge e) {
        e.term("IV", "(the least LEFT by 100, downwards, times 100 + p)");
        Calls x = Worlds.oneOfEach();
        for (int thread = 0; thread < 4; thread++) {
            x.record(0, 0, thread, 0, 3, 0, 0);
        }
        // 196 + 1 + 1 + 1
        x.law("lean 14 if thread = 0; lean 1");
        e.is("199 are left", x.left(0, 0, 0), 199);
        int[][] want = {{0, 0}, {98, 0}, {99, 1}, {100, 1}, {900, 1}};
        for (int[] w : want) {
            e.is("of 199, still by " + w[0], x.best(0, 0, w[0], 1), w[1]);
        }
        e.is("the best all the same", x.best(0, 0, 0, 0), 0);
        Calls y = Worlds.oneOfEach();
        for (int thread = 0; thread < 4; thread++) {
            y.record(0, 0, thread, 0, 3, 0, 0);
        }
        // 81 + 9 + 9 + 0
        y.law("lean 9 if thread = 0; lean 0 if thread = 1; lean 3");
        e.is("99 are left", y.left(0, 0, 0), 99);
        e.is("of 99, by 0", y.best(0, 0, 0, 1), 0);
        e.is("of 99, by 900", y.best(0, 0, 900, 1), 0);
        y.law("lean 0");
        e.is("of 0, by 0", y.best(0, 0, 0, 1), 2);
        e.is("of 0, by 900", y.best(0, 0, 900, 1), 2);
        Calls far = Worlds.oneOfEach();
        for (int i = 0; i < 400; i++) {
            far.feigns(0, 0, 0, 9999, 0);
        }
        far.law("lean 0-99999*99999");
        e.is("as much as may be, by 900", far.best(0, 0, 900, 1), 1);
    }

    private static Calls seenAt(int... threadsAndTenths) {
        Calls x = Calls.sky(2, 2, 2);
        for (int i = 0; i + 1 < threadsAndTenths.length; i += 2) {
            x.record(0, 0, threadsAndTenths[i], 0, 1, threadsAndTenths[i + 1], -1);
        }
        return x;
    }

    private static void threads(Edge e) {
        e.term("IV", "seen so at two THREADS or more (RECORDS, n of them):");
        e.is("at no thread", seenAt().scatter(1, 0), -2);
        e.is("at one thread", seenAt(2, 100).scatter(1, 0), -2);
        e.is("at one thread twice", seenAt(2, 100, 2, 104).scatter(1, 0), -2);
        e.is("at one thread five times", seenAt(4, 1, 4, 2, 4, 3, 4, 4, 4, 5).scatter(1, 0), -2);
        // 100 and 101
        for (int thread = 0; thread < 5; thread++) {
            for (int other = 0; other < 5; other++) {
                Calls x = seenAt(thread, 100 + 10 * (thread - 2), other, 101 + 10 * (other - 2));
                e.is("at threads " + thread + ", " + other, x.scatter(1, 0), thread == other ? -2 : 500);
            }
        }
        // 100, 100, 101: 1000 * (3 * 30201 - 90601) / 3 = 666, by 2
        e.is("three records at two threads", seenAt(2, 100, 2, 100, 3, 111).scatter(1, 0), 333);
        Calls y = seenAt(2, 100, 2, 104, 3, 110);
        e.is("two records at one thread, one at another", y.scatter(1, 0) > 0, true);
        y.clock(1);
        y.strike(2);
        e.is("the one at the other struck", y.scatter(1, 1), -2);
        e.is("before it was", y.scatter(1, 0) > 0, true);
        e.is("again from then", y.scatter(1, 1), -2);
        e.term("IV", "SCATTER of a WAY: of each OBSERVER, NIGHT, STAR (by NIGHTS, STARS, OBSERVERS)");
        Calls x = seenAt(2, 100);
        x.record(0, 0, 3, 1, 1, 110, -1);
        e.is("another's thread", x.scatter(1, 0), -2);
        x.record(1, 0, 3, 0, 1, 110, -1);
        e.is("another night's thread", x.scatter(1, 0), -2);
        x.record(0, 1, 3, 0, 1, 110, -1);
        e.is("another star's thread", x.scatter(1, 0), -2);
        x.record(0, 0, 3, 0, 2, 110, -1);
        e.is("another way's thread", x.scatter(1, 0), -2);
        x.clock(1);
        x.record(0, 0, 3, 0, 1, 110, -1);
        e.is("his own, then", x.scatter(1, 1), 0);
        e.is("his own, before", x.scatter(1, 0), -2);
        x.clock(2);
        x.strike(5);
        e.is("his own, struck", x.scatter(1, 2), -2);
    }

    private static void scatter(Edge e) {
        e.term("IV", "1000 times (n times the squares of REDUCED together, less the square of REDUCED together) by n, "
            + "downwards;");
        e.is("of two alike", seenAt(2, 100, 3, 110).scatter(1, 0), 0);
        e.is("of two", seenAt(2, 100, 3, 111).scatter(1, 0), 500);
        // 0, 0, 1: 2000 / 3 is 666, by 2; 0, 1, 1 the same
        e.is("of three, downwards", seenAt(0, 0, 1, 10, 2, 21).scatter(1, 0), 333);
        Calls x = seenAt(4, 0, 4, 0, 3, 0);
        // -20, -20, -10: 1000 * (3 * 900 - 2500) / 3 = 66666, by 2
        e.is("below 0", x.scatter(1, 0), 33333);
        Calls far = new Calls().observers(1).stars(1, 99).nights(1);
        for (int i = 0; i < 400; i++) {
            far.record(0, 0, i % 2 == 0 ? 0 : 4, 0, 4, i % 2 == 0 ? 9999 : 0, -1);
        }
        // 200 times 10197 and 200 times -198: 1000 * 100 * 10395 * 10395, by 399
        e.is("as much as may be", far.scatter(4, 0), 100000L * 10395L * 10395L / 399L);
        e.term("IV", "all of these together, by all n less 1 together, downwards.");
        x.record(1, 0, 2, 0, 1, 0, -1);
        x.record(1, 0, 3, 0, 1, 11, -1);
        // 66666 + 500 by 3
        e.is("of two nights", x.scatter(1, 0), 22388);
        x.record(0, 1, 2, 0, 1, 0, -1);
        x.record(0, 1, 3, 0, 1, 11, -1);
        // 67666 by 4
        e.is("of two stars", x.scatter(1, 0), 16916);
        x.record(0, 0, 2, 1, 1, 0, -1);
        x.record(0, 0, 3, 1, 1, 11, -1);
        // 68166 by 5
        e.is("of two observers", x.scatter(1, 0), 13633);
        x.record(1, 1, 2, 1, 1, 9999, -1);
        e.is("one at one thread beside them", x.scatter(1, 0), 13633);
        // twice 0, 0, 1: 666 and 666, each downwards, by 2 + 2
        Calls twice = seenAt(0, 0, 1, 10, 2, 21);
        for (int thread = 0; thread < 3; thread++) {
            twice.record(1, 0, thread, 0, 1, thread == 2 ? 21 : 10 * thread, -1);
        }
        e.is("two that are downwards themselves", twice.scatter(1, 0), 1332 / 4);
    }

    private static void finest(Edge e) {
        e.term("IV", "The FINEST WAY: that with the least SCATTER of those that have one; of several the least.");
        for (int way = 0; way < 5; way++) {
            Calls x = Calls.sky(1, 1, 1);
            e.is("none", x.finest(0), -2);
            int truth = way == 3 ? 0 : -1;
            x.record(0, 0, 2, 0, way, 100, truth);
            e.is("one thread in way " + way, x.finest(0), -2);
            x.record(0, 0, 3, 0, way, 119, truth);
            e.is("the only one, way " + way, x.finest(0), way);
        }
        for (int one = 0; one < 5; one++) {
            for (int other = 0; other < 5; other++) {
                if (one != other) {
                    Calls x = Calls.sky(1, 1, 1);
                    x.record(0, 0, 2, 0, one, 100, one == 3 ? 0 : -1);
                    x.record(0, 0, 3, 0, one, 111, one == 3 ? 0 : -1);
                    x.record(0, 0, 2, 0, other, 100, other == 3 ? 0 : -1);
                    x.record(0, 0, 3, 0, other, 111, other == 3 ? 0 : -1);
                    e.is("two alike, " + one + " and " + other, x.finest(0), Math.min(one, other));
                    x.record(0, 0, 4, 0, one, 122, one == 3 ? 0 : -1);
                    // 0, 1, 2: 2000, by 2
                    e.is(one + " is coarser than " + other, x.finest(0), other);
                }
            }
        }
    }
}
