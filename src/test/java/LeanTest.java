/** Promises 17 to 21: own, left, best, scatter, finest. */
public final class LeanTest {
    private static final Due DUE = new Due();

    public static void main(String[] args) {
        own();
        left();
        best();
        still();
        scatter();
        scatterOfOneThread();
        finest();
        DUE.close("LeanTest");
    }

    private static EachLater feigned() {
        EachLater x = new EachLater();
        x.observer(0);
        x.observer(0);
        x.star(3, 10, 0);
        x.clock(51);
        x.night(0, 51);
        x.clock(52);
        x.night(0, 52);
        x.clock(60);
        x.record(0, 0, 2, 0, 3, 103, 100);
        x.record(1, 0, 2, 0, 3, 98, 100);
        x.clock(61);
        x.record(1, 0, 2, 0, 3, 99, 100);
        x.record(1, 0, 2, 1, 3, 9999, 0);
        x.record(1, 0, 2, 0, 0, 99, -1);
        return x;
    }

    private static void own() {
        EachLater x = feigned();
        DUE.is("own: all", x.own(0, -1, 61, 0), 3);
        DUE.is("own: late of all", x.own(0, -1, 61, 1), 0);
        DUE.is("own: span of all", x.own(0, -1, 61, 2), 5);
        DUE.is("own: as known before", x.own(0, -1, 60, 0), 2);
        DUE.is("own: late as known before", x.own(0, -1, 60, 1), 500);
        DUE.is("own: known by nobody", x.own(0, -1, 59, 0), 0);
        DUE.is("own: year 0", x.own(0, 0, 61, 1), 3000);
        DUE.is("own: year 1", x.own(0, 1, 61, 1), -1500);
        DUE.is("own: year 1, span", x.own(0, 1, 61, 2), 1);
        DUE.is("own: year 2", x.own(0, 2, 61, 0), 0);
        DUE.is("own: year 2, late", x.own(0, 2, 61, 1), -1000000000);
        DUE.is("own: year 2, span", x.own(0, 2, 61, 2), -1000000000);
        DUE.is("own: the other", x.own(1, -1, 9999, 1), 9999000);
        x.record(1, 0, 2, 0, 3, 99, 100);
        DUE.is("own: downwards", x.own(0, 1, 61, 1), -1334);
        x.strike(3);
        DUE.is("own: struck", x.own(1, -1, 61, 0), 0);
        DUE.is("own: the last year", x.own(0, 192, 61, 0), 0);
        DUE.is("own: no year", x.own(0, 193, 61, 0), -2000000000);
        DUE.is("own: year below NONE", x.own(0, -2, 61, 0), -2000000000);
        DUE.is("own: no observer", x.own(2, -1, 61, 0), -2000000000);
        DUE.is("own: observer below 0", x.own(-1, -1, 61, 0), -2000000000);
        DUE.is("own: known below 0", x.own(0, -1, -1, 0), -2000000000);
        DUE.is("own: known too late", x.own(0, -1, 10000, 0), -2000000000);
        DUE.is("own: another what", x.own(0, -1, 61, 3), -2000000000);
        DUE.is("own: what below 0", x.own(0, -1, 61, -1), -2000000000);
    }

    private static void left() {
        EachLater x = feigned();
        Texts.law(x, "lean 1000");
        DUE.is("left", x.left(0, 0, 61), 4000000L + 9000000L + 4000000L);
        DUE.is("left: before", x.left(0, 0, 60), 13000000L);
        DUE.is("left: of nothing", x.left(0, 0, 59), 0);
        DUE.is("left: much", x.left(1, 0, 61), 9998000L * 9998000L);
        DUE.is("left: no law", x.left(0, 1, 61), -1);
        DUE.is("left: law below 0", x.left(0, -1, 61), -1);
        DUE.is("left: no observer", x.left(2, 0, 61), -1);
        DUE.is("left: observer below 0", x.left(-1, 0, 61), -1);
        DUE.is("left: known below 0", x.left(0, 0, -1), -1);
        DUE.is("left: known too late", x.left(0, 0, 10000), -1);
    }

    private static void best() {
        EachLater x = feigned();
        DUE.is("best: without laws", x.best(0, 61, 0, 0), -1);
        DUE.is("still: without laws", x.best(0, 61, 0, 1), 0);
        Texts.law(x, "lean 1000");
        Texts.law(x, "lean 0");
        Texts.law(x, "lean 0 * 5");
        DUE.is("best: the least of several", x.best(0, 61, 0, 0), 1);
        DUE.is("best: the other", x.best(1, 61, 0, 0), 0);
        DUE.is("best: of nothing", x.best(0, 59, 0, 0), 0);
        DUE.is("still: of nothing", x.best(0, 59, 0, 1), 7);
        int[][] wrong = {{2, 61, 0, 0}, {-1, 61, 0, 0}, {0, -1, 0, 0}, {0, 10000, 0, 0}, {0, 61, -1, 0},
            {0, 61, 901, 0}, {0, 61, 901, 1}, {0, 61, 0, 2}, {0, 61, 0, -1}};
        for (int[] w : wrong) {
            DUE.is("best: wrong", x.best(w[0], w[1], w[2], w[3]), -2);
        }
    }

    private static void still() {
        EachLater x = feigned();
        Texts.law(x, "lean 1000");
        Texts.law(x, "lean 0");
        Texts.law(x, "lean 5000");
        // left: 17000000, 14000000, 4000000 + 49000000 + 36000000
        DUE.is("still: the best alone", x.best(0, 61, 0, 1), 2);
        DUE.is("still: not yet", x.best(0, 61, 21, 1), 2);
        DUE.is("still: by 22", x.best(0, 61, 22, 1), 3);
        DUE.is("still: by 535", x.best(0, 61, 535, 1), 3);
        DUE.is("still: by 536", x.best(0, 61, 536, 1), 7);
        DUE.is("still: by 900", x.best(0, 61, 900, 1), 7);
        EachLater y = feigned();
        Texts.law(y, "lean 7");
        // 1000 times late less 7, squared, is no number of hundreds: a hundredth of it is taken downwards first
        long least = 2993L * 2993 + 2007L * 2007 + 1007L * 1007;
        DUE.is("still: least", y.left(0, 0, 61), least);
        DUE.is("still: not even the best", y.best(0, 61, 0, 1), least <= least / 100 * 100 ? 1 : 0);
        DUE.is("still: with one more", y.best(0, 61, 1, 1), 1);
    }

    private static EachLater threads() {
        EachLater x = new EachLater();
        x.observer(0);
        x.observer(0);
        x.star(3, 10, 0);
        x.night(0, 0);
        x.night(0, 0);
        return x;
    }

    private static void scatter() {
        EachLater x = threads();
        DUE.is("scatter: none", x.scatter(0, 0), -2);
        x.record(0, 0, 0, 0, 0, 80, -1);
        x.record(0, 0, 1, 1, 0, 80, -1);
        x.record(1, 0, 1, 0, 0, 80, -1);
        x.record(0, 0, 1, 0, 1, 80, -1);
        DUE.is("scatter: each by himself", x.scatter(0, 0), -2);
        x.record(0, 0, 2, 0, 0, 101, -1);
        // reduced 100, 101: 1000 * (2 * 20201 - 40401) / 2
        DUE.is("scatter: of one", x.scatter(0, 0), 500);
        x.record(0, 0, 3, 0, 0, 113, -1);
        // 100, 101, 103: 1000 * (3 * 30810 - 92416) / 3 = 14000 / 3, by 2
        DUE.is("scatter: of three", x.scatter(0, 0), 4666 / 2);
        x.record(1, 0, 2, 0, 0, 95, -1);
        // 90, 95: 1000 * 25 / 2 = 12500: (4666 + 12500) / 3
        DUE.is("scatter: of two nights", x.scatter(0, 0), 17166 / 3);
        DUE.is("scatter: another way", x.scatter(1, 0), -2);
        x.clock(1);
        x.strike(4);
        // 100, 103 and 90, 95: (4500 + 12500) / 2
        DUE.is("scatter: struck", x.scatter(0, 1), 8500);
        DUE.is("scatter: as known before", x.scatter(0, 0), 17166 / 3);
        DUE.is("scatter: way below 0", x.scatter(-1, 0), -1);
        DUE.is("scatter: way above 4", x.scatter(5, 0), -1);
        DUE.is("scatter: known below 0", x.scatter(0, -1), -1);
        DUE.is("scatter: known too late", x.scatter(0, 10000), -1);
    }

    private static void scatterOfOneThread() {
        EachLater x = threads();
        x.record(0, 0, 2, 0, 0, 100, -1);
        x.record(0, 0, 2, 0, 0, 104, -1);
        DUE.is("scatter: two records at one thread", x.scatter(0, 0), -2);
        DUE.is("finest: two records at one thread", x.finest(0), -2);
        x.record(0, 0, 3, 1, 0, 110, -1);
        x.record(1, 0, 3, 0, 0, 110, -1);
        DUE.is("scatter: another thread of another man or night", x.scatter(0, 0), -2);
        x.record(0, 0, 0, 0, 0, 80, -1);
        // 100, 104, 100: 1000 * (3 * 30816 - 92416) / 3 = 10666, by 2: all records at these threads count
        DUE.is("scatter: three records at two threads", x.scatter(0, 0), 10666 / 2);
        x.record(1, 0, 3, 0, 0, 190, -1);
        DUE.is("scatter: one thread beside two", x.scatter(0, 0), 10666 / 2);
        x.clock(1);
        x.strike(4);
        DUE.is("scatter: the second thread struck", x.scatter(0, 1), -2);
        x.record(0, 0, 4, 0, 0, 121, -1);
        // 100, 104, 101: 1000 * (3 * 31017 - 93025) / 3 = 8666, by 2
        DUE.is("scatter: the outermost thread", x.scatter(0, 1), 8666 / 2);
        DUE.is("scatter: one thread as known before", x.scatter(0, 0), 10666 / 2);
    }

    private static void finest() {
        EachLater x = threads();
        DUE.is("finest: none", x.finest(0), -2);
        DUE.is("finest: known below 0", x.finest(-1), -1);
        DUE.is("finest: known too late", x.finest(10000), -1);
        x.record(0, 0, 1, 0, 4, 80, -1);
        x.record(0, 0, 2, 0, 4, 91, -1);
        DUE.is("finest: the only one", x.finest(0), 4);
        x.record(0, 0, 1, 0, 2, 80, -1);
        x.record(0, 0, 2, 0, 2, 91, -1);
        DUE.is("finest: the least of several", x.finest(0), 2);
        x.record(0, 0, 1, 0, 0, 80, -1);
        x.record(0, 0, 2, 0, 0, 99, -1);
        DUE.is("finest: not the coarse one", x.finest(0), 2);
        x.record(0, 0, 1, 0, 3, 80, 70);
        x.record(0, 0, 2, 0, 3, 90, 70);
        DUE.is("finest: without any scatter, feigned too", x.finest(0), 3);
        x.clock(1);
        x.strike(4);
        x.record(0, 0, 1, 0, 0, 89, -1);
        DUE.is("finest: the first way", x.finest(1), 0);
        DUE.is("finest: as known before", x.finest(0), 3);
    }
}
