/** Promises 1 to 8: a new object, clock, observer, star, night, record, strike, seen. */
final class PromisesOfTheBook {
    private static final int ANY = -1000000000;
    private static final int MIN = Integer.MIN_VALUE;
    private static final int MAX = Integer.MAX_VALUE;

    // What the rich world has not, of an observer, a night, a star, a way, a week.
    private static final int[][] NOT_THESE = {{-1, 0, 0, 0, 0}, {4, 0, 0, 0, 0}, {0, -1, 0, 0, 0}, {0, 4, 0, 0, 0},
        {0, 0, -1, 0, 0}, {0, 0, 2, 0, 0}, {0, 0, 0, -1, 0}, {0, 0, 0, 5, 0}, {0, 0, 0, 0, -1}, {0, 0, 0, 0, 10000},
        {MIN, 0, 0, 0, 0}, {0, MAX, 0, 0, 0}, {0, 0, MAX, 0, 0}, {0, 0, 0, MIN, 0}, {0, 0, 0, 0, MAX}};

    private PromisesOfTheBook() {
    }

    static void hold(Edge e) {
        newObject(e);
        clock(e);
        observer(e);
        star(e);
        night(e);
        record(e);
        recordAtItsEdges(e);
        strike(e);
        seen(e);
        seenWithoutThese(e);
    }

    private static void newObject(Edge e) {
        e.promise(1, "WEEK 0; nobody, nothing seen.");
        Calls x = new Calls();
        for (int what = 0; what < 8; what++) {
            e.is("count " + what, x.count(what), 0);
        }
        e.is("no observer", x.far(0, 0), -1);
        e.is("no star, night, record", x.seen(0, 0, 0, 0, 0, 0), -1);
        e.is("no record", x.strike(0), false);
        e.is("no law", x.gives(0, 0), -1000000);
        e.is("no way is finest", x.finest(0), -2);
        e.is("nobody is tied", x.tied(0), 0);
        e.is("no journey", x.tied(1), -1);
        e.is("nobody is next", x.next(), -2);
        e.is("no plan", x.plan(999, 0), 0);
        e.is("no longitude", x.longitude(0, 1, 0, 1), 0);
        for (int k = 0; k < 4; k++) {
            e.is("no mark " + k, x.back(k), -1);
        }
        e.is("the tape is empty", x.law(), -3);
        // one object's calls are nothing to another
        Calls before = new Calls();
        Worlds.rich();
        e.sameLater("another object's calls", before, new Calls());
    }

    private static Calls inWeek(int week) {
        Calls x = Worlds.rich();
        x.clock(week);
        return x;
    }

    private static void clock(Edge e) {
        e.promise(2, "NOW is a WEEK, its own or a later one: true;");
        for (int now : new int[] {0, 1, 500, 9998, 9999}) {
            for (int week : new int[] {now, now + 1, 9998, 9999}) {
                if (week >= now && week <= 9999) {
                    Calls x = new Calls();
                    x.clock(now);
                    e.is("from " + now + " to " + week, x.clock(week), true);
                    e.is("now, from " + now, x.count(0), week);
                }
            }
        }
        e.promise(2, "false, and nothing happens, for others.");
        for (int week : new int[] {MIN, -1, 0, 60, 10000, MAX}) {
            e.nothing("clock(" + week + ") in week 61", Worlds::rich, x -> x.clock(week) ? 1 : 0, 0);
        }
        for (int week : new int[] {MIN, -1, 0, 9998, 10000, MAX}) {
            e.nothing("clock(" + week + ") in week 9999", () -> inWeek(9999), x -> x.clock(week) ? 1 : 0, 0);
        }
        for (int week : new int[] {MIN, -1, 10000, MAX}) {
            e.nothing("clock(" + week + ") in week 0", Worlds::oneOfEach, x -> x.clock(week) ? 1 : 0, 0);
        }
        Calls back = new Calls();
        back.mark(0);
        back.clock(9);
        back.back(0);
        e.is("gone back, a week before that one", back.clock(3), true);
    }

    private static void observer(Edge e) {
        e.promise(3, "An OBSERVER: the number;");
        Calls x = new Calls();
        for (int i = 0; i < 16; i++) {
            e.is("observer " + i, x.observer(i == 0 ? -5000 : 9999), i);
            e.is("how many then", x.count(1), i + 1);
        }
        e.promise(3, "NONE: there are 16,");
        for (int born : new int[] {-5000, 0, 9999, 10000, -5001}) {
            e.nothing("the seventeenth, " + born, () -> Calls.sky(16, 1, 1).meet(0, 0, 0, 5, 1, 6),
                y -> y.observer(born), -1);
        }
        e.is("the sixteenth", Worlds.withObservers(15).observer(0), 15);
        Calls back = new Calls();
        back.mark(0);
        back.observers(16);
        back.back(0);
        e.is("gone back, there are none", back.observer(0), 0);
        e.promise(3, "or no such WEEK.");
        for (int born : new int[] {MIN, -5001, 10000, MAX}) {
            e.nothing("born in " + born, Worlds::rich, y -> y.observer(born), -1);
        }
        for (int born : new int[] {-5000, -4999, -1, 0, 62, 9998, 9999}) {
            e.is("born in " + born, Worlds.rich().observer(born), 4);
        }
    }

    private static void star(Edge e) {
        e.promise(4, "A STAR: its number;");
        Calls x = new Calls();
        for (int i = 0; i < 24; i++) {
            e.is("star " + i, x.star(i % 10, 1 + i, i % 2), i);
            e.is("how many then", x.count(2), i + 1);
        }
        e.promise(4, "NONE: there are 24,");
        e.nothing("the twenty-fifth", () -> Calls.sky(2, 24, 1).meet(0, 23, 0, 5, 1, 6), y -> y.star(0, 1, 0), -1);
        e.is("the twenty-fourth", Worlds.withStars(23).star(0, 1, 0), 23);
        e.promise(4, "or something is not as told.");
        int[][] wrong = {{-1, 1, 0}, {10, 1, 0}, {MIN, 1, 0}, {MAX, 1, 0}, {0, 0, 0}, {0, 100, 0}, {0, -1, 0},
            {0, MIN, 0}, {0, MAX, 0}, {0, 1, -1}, {0, 1, 2}, {0, 1, MIN}, {0, 1, MAX}};
        for (int[] w : wrong) {
            e.nothing("star of " + w[0] + ", " + w[1] + ", " + w[2], Worlds::rich, y -> y.star(w[0], w[1], w[2]), -1);
        }
        e.is("the least of all", Worlds.rich().star(0, 1, 0), 2);
        e.is("the greatest of all", Worlds.rich().star(9, 99, 1), 2);
    }

    private static void night(Edge e) {
        e.promise(5, "A NIGHT: its number;");
        Calls x = new Calls();
        x.clock(9999);
        for (int i = 0; i < 80; i++) {
            e.is("night " + i, x.night(i % 4, i == 0 ? 9999 : i), i);
            e.is("how many then", x.count(3), i + 1);
        }
        e.promise(5, "NONE: there are 80,");
        e.nothing("the eighty-first", () -> Calls.sky(2, 1, 80).meet(79, 0, 0, 5, 1, 6), y -> y.night(0, 0), -1);
        e.is("the eightieth", Worlds.withNights(79).night(0, 0), 79);
        e.promise(5, "or something is not as told.");
        int[][] wrong = {{-1, 0}, {4, 0}, {MIN, 0}, {MAX, 0}, {0, -1}, {0, 62}, {0, 10000}, {0, MIN}, {0, MAX}};
        for (int[] w : wrong) {
            e.nothing("night of " + w[0] + ", " + w[1], Worlds::rich, y -> y.night(w[0], w[1]), -1);
        }
        e.is("of the first house, now", Worlds.rich().night(0, 61), 4);
        e.is("of the last house, in the first week", Worlds.rich().night(3, 0), 4);
    }

    private static void record(Edge e) {
        e.promise(6, "A RECORD: its number;");
        Calls x = Worlds.oneOfEach();
        for (int i = 0; i < 400; i++) {
            int way = i % 5;
            e.is("record " + i, x.record(0, 0, 4 - way, 0, way, 9999 - i, way == 3 ? i : -1), i);
        }
        e.is("how many then", x.count(4), 400);
        e.promise(6, "NONE: there are 400,");
        e.nothing("the four hundred and first", () -> Worlds.withRecords(400), y -> y.sees(0, 0, 0, 5), -1);
        e.nothing("the same, feigned", () -> Worlds.withRecords(400), y -> y.feigns(0, 0, 0, 5, 5), -1);
        e.is("the four hundredth", Worlds.withRecords(399).sees(0, 0, 0, 5), 399);
        Calls struck = Worlds.withRecords(400);
        struck.strike(0);
        e.is("with one struck there are 400", struck.sees(0, 0, 0, 5), -1);
    }

    private static void recordAtItsEdges(Edge e) {
        e.promise(6, "or something is not as told.");
        // the rich world has 4 observers, 2 stars, 4 nights
        int[][] wrong = {{-1, 0, 0, 0, 0, 0, -1}, {4, 0, 0, 0, 0, 0, -1}, {MIN, 0, 0, 0, 0, 0, -1},
            {MAX, 0, 0, 0, 0, 0, -1}, {0, -1, 0, 0, 0, 0, -1}, {0, 2, 0, 0, 0, 0, -1}, {0, MIN, 0, 0, 0, 0, -1},
            {0, MAX, 0, 0, 0, 0, -1}, {0, 0, -1, 0, 0, 0, -1}, {0, 0, 5, 0, 0, 0, -1}, {0, 0, MIN, 0, 0, 0, -1},
            {0, 0, MAX, 0, 0, 0, -1}, {0, 0, 0, -1, 0, 0, -1}, {0, 0, 0, 4, 0, 0, -1}, {0, 0, 0, MIN, 0, 0, -1},
            {0, 0, 0, MAX, 0, 0, -1}, {0, 0, 0, 0, -1, 0, -1}, {0, 0, 0, 0, 5, 0, -1}, {0, 0, 0, 0, MIN, 0, -1},
            {0, 0, 0, 0, MAX, 0, -1}, {0, 0, 0, 0, 0, -1, -1}, {0, 0, 0, 0, 0, 10000, -1}, {0, 0, 0, 0, 0, MIN, -1},
            {0, 0, 0, 0, 0, MAX, -1}, {0, 0, 0, 0, 0, 0, -2}, {0, 0, 0, 0, 0, 0, 0}, {0, 0, 0, 0, 0, 0, MIN},
            {0, 0, 0, 0, 0, 0, MAX}, {0, 0, 0, 0, 3, 0, -1}, {0, 0, 0, 0, 3, 0, 10000}, {0, 0, 0, 0, 3, 0, MIN},
            {0, 0, 0, 0, 3, 0, MAX}, {0, 0, 0, 0, 3, -1, 0}, {0, 0, 0, 0, 3, 10000, 0}, {0, 0, 0, 0, 1, 0, 0},
            {0, 0, 0, 0, 2, 0, 0}, {0, 0, 0, 0, 4, 0, 0}};
        for (int[] w : wrong) {
            e.nothing("record of " + java.util.Arrays.toString(w), Worlds::rich,
                y -> y.record(w[0], w[1], w[2], w[3], w[4], w[5], w[6]), -1);
        }
        int next = Worlds.rich().count(4);
        e.is("the last night, star, thread, observer, way, tenth", Worlds.rich().record(3, 1, 4, 3, 4, 9999, -1), next);
        e.is("the first of each", Worlds.rich().record(0, 0, 0, 0, 0, 0, -1), next);
        e.is("feigned, the least", Worlds.rich().record(0, 0, 0, 0, 3, 0, 0), next);
        e.is("feigned, the greatest", Worlds.rich().record(3, 1, 4, 3, 3, 9999, 9999), next);
    }

    private static void strike(Edge e) {
        e.promise(7, "A RECORD is STRUCK: true;");
        for (int n : new int[] {1, 399, 400}) {
            Calls x = Worlds.withRecords(n);
            e.is("the first of " + n, x.strike(0), true);
            e.is("it is seen no more", x.seen(0, 0, 0, 0, 0, 0), (n + 1) / 2 - 1);
            if (n > 1) {
                e.is("the last of " + n, x.strike(n - 1), true);
            }
        }
        e.promise(7, "false, and nothing happens, without it,");
        int records = Worlds.rich().count(4);
        for (int r : new int[] {MIN, -1, records, records + 1, 400, MAX}) {
            e.nothing("strike(" + r + ") of " + records, Worlds::rich, x -> x.strike(r) ? 1 : 0, 0);
        }
        e.nothing("strike(0) of none", Worlds::oneOfEach, x -> x.strike(0) ? 1 : 0, 0);
        e.nothing("strike(400) of 400", () -> Worlds.withRecords(400), x -> x.strike(400) ? 1 : 0, 0);
        e.promise(7, "or STRUCK already.");
        // struck in weeks 3, 60 and 61
        for (int r : new int[] {2, 4, 3}) {
            e.nothing("strike(" + r + "), struck already", Worlds::rich, x -> x.strike(r) ? 1 : 0, 0);
            e.nothing("strike(" + r + "), struck in a week before", () -> inWeek(70), x -> x.strike(r) ? 1 : 0, 0);
        }
        Calls back = Worlds.withRecords(2);
        back.mark(0);
        back.strike(0);
        back.back(0);
        e.is("gone back, it is not struck", back.strike(0), true);
    }

    private static void seen(Edge e) {
        e.promise(8, "SEEN what 0: how many (NONE without these)");
        Calls x = Calls.sky(2, 2, 2);
        e.is("none", x.seen(1, 1, 1, 4, 0, 0), 0);
        x.record(1, 1, 4, 1, 4, 0, -1);
        e.is("one", x.seen(1, 1, 1, 4, 0, 0), 1);
        for (int[] w : NOT_THESE) {
            e.nothing("without, what 0", Worlds::rich, y -> y.seen(w[0], w[1], w[2], w[3], w[4], 0), -1);
        }
        e.is("with these, the last of each", Worlds.rich().seen(3, 3, 1, 4, 9999, 0), 0);
        e.promise(8, "1: REDUCED together (0 without RECORDS);");
        e.is("one", x.seen(1, 1, 1, 4, 0, 1), -20);
        e.is("without records", x.seen(1, 1, 1, 0, 0, 1), 0);
        x.record(1, 1, 0, 1, 4, 0, -1);
        e.is("two whose sum is 0", x.seen(1, 1, 1, 4, 0, 1), 0);
        e.is("they are two", x.seen(1, 1, 1, 4, 0, 0), 2);
        x.strike(0);
        x.strike(1);
        e.is("all struck", x.seen(1, 1, 1, 4, 0, 1), 0);
        e.is("all struck, how many", x.seen(1, 1, 1, 4, 0, 0), 0);
    }

    private static void seenWithoutThese(Edge e) {
        e.promise(8, "-1000000000 without these,");
        for (int[] w : NOT_THESE) {
            for (int what : new int[] {MIN, -1, 2, MAX}) {
                e.is("without, what " + what, Worlds.rich().seen(w[0], w[1], w[2], w[3], w[4], what), ANY);
            }
            e.nothing("seen without", Worlds::rich, x -> x.seen(w[0], w[1], w[2], w[3], w[4], 1), ANY);
        }
        e.is("with these, the last of each", Worlds.rich().seen(3, 3, 1, 4, 9999, 1), 0);
        e.promise(8, "or for another what.");
        for (int what : new int[] {MIN, -1, 2, MAX}) {
            e.nothing("what " + what, Worlds::rich, x -> x.seen(0, 0, 0, 0, 61, what), ANY);
        }
        // 100, and 85 and 125 reduced by 20 tenths
        e.nothing("what 1", Worlds::rich, x -> x.seen(0, 0, 0, 0, 61, 1), 310);
        e.nothing("what 0", Worlds::rich, x -> x.seen(0, 0, 0, 0, 61, 0), 3);
    }
}
