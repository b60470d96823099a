/** Term I: weeks, observers, stars, nights, records; what is known and what is struck. */
final class TermOne {
    private static final int ANY = -1000000000;
    private static final int THESE = -2000000000;

    private TermOne() {
    }

    static void hold(Edge e) {
        weeks(e);
        weeksAsKnown(e);
        years(e);
        observers(e);
        observersAsNumbers(e);
        stars(e);
        nights(e);
        lastOfAll(e);
        recordNumbers(e);
        recordsUnlike(e);
        recordOf(e);
        tenths(e);
        knownFromNow(e);
        struckFromNow(e);
        reduced(e);
        late(e);
        asKnown(e);
        seenOf(e);
    }

    private static void weeks(Edge e) {
        e.term("I", "WEEKS 0 to 9999");
        e.range("clock", 0, 9999, week -> new Calls().clock(week) ? 1 : 0, 1, 0);
        Calls last = new Calls();
        last.clock(9999);
        e.range("night, in the last week", 0, 9999, week -> {
            Calls x = new Calls();
            x.clock(9999);
            return x.night(0, week);
        }, 0, -1);
        e.is("the last week", last.count(0), 9999);
        e.term("I", "NOW (0 at first)");
        e.is("count 0 of a new object", new Calls().count(0), 0);
        e.is("a night of week 0", new Calls().night(0, 0), 0);
        e.is("a night of week 1", new Calls().night(0, 1), -1);
    }

    /** Two who met, one feigned record of each, two houses: every question has an answer, in every week the same. */
    private static Calls asked() {
        Calls x = Calls.sky(2, 1, 2);
        x.night(1, 0);
        x.meet(0, 0, 0, 100, 1, 90).meet(2, 0, 0, 300, 1, 290);
        x.record(0, 0, 3, 0, 0, 111, -1);
        x.feigns(0, 0, 0, 5, 4);
        x.law("lean 1");
        return x;
    }

    private static void weeksAsKnown(Edge e) {
        e.term("I", "As KNOWN in a WEEK");
        e.range("seen 0", 0, 9999, k -> asked().seen(0, 0, 0, 0, k, 0), 2, -1);
        e.range("seen 1", 0, 9999, k -> asked().seen(0, 0, 0, 0, k, 1), 201, ANY);
        e.range("two", 0, 9999, k -> asked().two(0, 1, k, 0), 2, THESE);
        e.range("rope", 0, 9999, k -> asked().rope(0, 1, k, 0), 1, THESE);
        e.range("rope to himself", 0, 9999, k -> asked().rope(0, 0, k, 0), 0, THESE);
        e.range("knot", 0, 9999, k -> asked().knot(0, 1, k, 1), 1, -1);
        e.range("far", 0, 9999, k -> asked().far(0, k), 0, -1);
        e.range("own", 0, 9999, k -> asked().own(0, -1, k, 0), 1, THESE);
        e.range("left", 0, 9999, k -> asked().left(0, 0, k), 999L * 999L, -1);
        e.range("best", 0, 9999, k -> asked().best(0, k, 1, 0), 0, -2);
        e.range("still", 0, 9999, k -> asked().best(0, k, 1, 1), 1, -2);
        // 100 and 101
        e.range("scatter", 0, 9999, k -> asked().scatter(0, k), 500, -1);
        e.range("finest", 0, 9999, k -> asked().finest(k), 0, -1);
        e.range("moved", 0, 9999, k -> asked().moved(0, 0, 0, 0, 0, k, 0), 100500, THESE);
        e.range("longitude", 0, 9999, k -> asked().longitude(0, 1, k, 1), 4, THESE);
        e.range("said", 0, 9999, k -> asked().said(0, 1, k, 1), 4, -1);
    }

    private static void years(Edge e) {
        e.term("I", "YEAR: WEEK by 52, downwards");
        int[][] weeks = {{0, 0}, {51, 0}, {52, 1}, {53, 1}, {103, 1}, {104, 2}, {9983, 191}, {9984, 192}, {9999, 192}};
        for (int[] w : weeks) {
            Calls x = new Calls().observers(1).stars(1, 10);
            x.clock(9999);
            x.night(0, w[0]);
            x.feigns(0, 0, 0, 7, 0);
            x.law("lean year");
            e.is("year of week " + w[0], x.gives(0, 0), w[1]);
            for (int year : new int[] {w[1] - 1, w[1], w[1] + 1}) {
                if (year >= 0 && year <= 192) {
                    e.is("own of year " + year + " in week " + w[0], x.own(0, year, 9999, 0), year == w[1] ? 1 : 0);
                }
            }
        }
    }

    private static void observers(Edge e) {
        e.term("I", "OBSERVERS 0 to 15");
        Calls x = new Calls();
        for (int i = 0; i < 16; i++) {
            e.is("observer " + i, x.observer(i), i);
        }
        e.is("the seventeenth", x.observer(0), -1);
        e.is("the eighteenth", x.observer(0), -1);
        e.is("how many", x.count(1), 16);
        e.term("I", "born in a WEEK (-5000 to 9999)");
        e.range("observer", -5000, 9999, born -> new Calls().observer(born), 0, -1);
    }

    /** Everyone has met everyone, and has one feigned record: every number of an observer has an answer. */
    private static Calls all(int observers) {
        Calls x = Calls.sky(observers, 1, 1);
        for (int i = 0; i < observers; i++) {
            x.sees(i, 0, 0, 100 + i);
            x.feigns(i, 0, 0, 5, 4);
        }
        x.law("lean 1");
        return x;
    }

    private static void observersAsNumbers(Edge e) {
        e.term("I", "by an OBSERVER,");
        for (int n : new int[] {2, 16}) {
            int last = n - 1;
            String of = " of " + n + " observers";
            e.range("record" + of, 0, last, o -> all(n).sees(o, 0, 0, 1), 2 * n, -1);
            e.range("seen 0" + of, 0, last, o -> all(n).seen(o, 0, 0, 0, 0, 0), 1, -1);
            e.range("seen 1" + of, 0, last, o -> all(n).seen(o, 0, 0, 0, 0, 1), ANY);
            e.range("far" + of, 0, last, o -> all(n).far(o, 0), 0, -1);
            e.range("rope from" + of, 0, last, o -> all(n).rope(o, 0, 0, 0), THESE);
            e.range("rope to" + of, 0, last, o -> all(n).rope(0, o, 0, 0), THESE);
            e.range("knot from" + of, 0, last, o -> all(n).knot(o, 1, 0, 0), -1);
            e.range("knot to" + of, 0, last, o -> all(n).knot(1, o, 0, 0), 1, -1);
            e.range("own" + of, 0, last, o -> all(n).own(o, -1, 0, 1), 1000, THESE);
            e.range("left" + of, 0, last, o -> all(n).left(o, 0, 0), 999L * 999L, -1);
            e.range("best" + of, 0, last, o -> all(n).best(o, 0, 0, 0), 0, -2);
            e.range("moved" + of, 0, last, o -> all(n).moved(o, 0, 0, 0, o, 0, 1), 0, THESE);
            e.range("moved to" + of, 0, last, o -> all(n).moved(0, 0, 0, 0, o, 0, 0), THESE);
            e.range("leans" + of, 0, last, o -> all(n).leans(o, 0) ? 1 : 0, 1, 0);
            // no pair with oneself: 0 is left out on the one side, the last on the other
            e.range("two, the first" + of, 0, last - 1, o -> all(n).two(o == last ? n : o, last, 0, 0), 1, THESE);
            e.range("two, the second" + of, 1, last, o -> all(n).two(0, o, 0, 0), 1, THESE);
            e.range("said, the first" + of, 0, last - 1, o -> all(n).said(o, last, 0, 1), 2, -1);
            e.range("said, the second" + of, 1, last, o -> all(n).said(0, o, 0, 1), 2, -1);
            e.range("later, the first" + of, 0, last - 1, o -> all(n).later(o, last, 0, 0, 1), 0, -1);
            e.range("later, the second" + of, 1, last, o -> all(n).later(0, o, 0, 0, 1), 0, -1);
            e.range("journey, the first" + of, 0, last - 1, o -> all(n).journey(o, last, 1), 0, -1);
            e.range("journey, the second" + of, 1, last, o -> all(n).journey(0, o, 1), 0, -1);
        }
    }

    private static void stars(Edge e) {
        e.term("I", "STARS 0 to 23");
        Calls x = new Calls();
        for (int i = 0; i < 24; i++) {
            e.is("star " + i, x.star(1, 1, 1), i);
        }
        e.is("the twenty-fifth", x.star(1, 1, 1), -1);
        e.is("how many", x.count(2), 24);
        x.observers(1).nights(1);
        e.range("record of a star", 0, 23, star -> {
            Calls y = Calls.sky(1, 24, 1);
            return y.record(0, star, 0, 0, 0, 0, -1);
        }, 0, -1);
        e.range("seen of a star", 0, 23, star -> Calls.sky(1, 24, 1).seen(0, 0, star, 0, 0, 0), 0, -1);
        e.range("moved of a star", 0, 23, star -> Calls.sky(1, 24, 1).moved(0, 0, star, 0, 0, 0, 0), ANY, THESE);
        e.range("record of the only star", 0, 0, star -> Worlds.oneOfEach().record(0, star, 0, 0, 0, 0, -1), 0, -1);
        e.term("I", "brightness (0 to 9)");
        e.range("star", 0, 9, bright -> new Calls().star(bright, 1, 0), 0, -1);
        e.term("I", "pace (1 to 99 tenths from one THREAD to the next)");
        e.range("star", 1, 99, pace -> new Calls().star(0, pace, 0), 0, -1);
        e.term("I", "side (0, 1)");
        e.range("star", 0, 1, side -> new Calls().star(0, 1, side), 0, -1);
    }

    private static Calls inWeek(int week) {
        Calls x = new Calls();
        x.clock(week);
        return x;
    }

    private static void nights(Edge e) {
        e.term("I", "NIGHTS 0 to 79");
        Calls x = new Calls();
        for (int i = 0; i < 80; i++) {
            e.is("night " + i, x.night(i % 4, 0), i);
        }
        e.is("the eighty-first", x.night(0, 0), -1);
        e.is("how many", x.count(3), 80);
        e.range("record on a night", 0, 79, night -> Calls.sky(1, 1, 80).record(night, 0, 0, 0, 0, 0, -1), 0, -1);
        e.range("seen on a night", 0, 79, night -> Calls.sky(1, 1, 80).seen(0, night, 0, 0, 0, 0), 0, -1);
        e.range("moved on a night", 0, 79, night -> Calls.sky(1, 1, 80).moved(0, night, 0, 0, 0, 0, 0), ANY, THESE);
        e.range("record on the only night", 0, 0, night -> Worlds.oneOfEach().record(night, 0, 0, 0, 0, 0, -1), 0, -1);
        e.term("I", "of a HOUSE (0 to 3)");
        e.range("night", 0, 3, house -> new Calls().night(house, 0), 0, -1);
        e.range("longitude of the first", 0, 2, house -> new Calls().longitude(house, 3, 0, 1), 0, THESE);
        e.range("longitude of the second", 1, 3, house -> new Calls().longitude(0, house, 0, 1), 0, THESE);
        e.term("I", "in a WEEK (not behind NOW)");
        e.range("night, now 0", 0, 0, week -> new Calls().night(0, week), 0, -1);
        e.range("night, now 100", 0, 100, week -> inWeek(100).night(0, week), 0, -1);
        e.range("night, now 9999", 0, 9999, week -> inWeek(9999).night(0, week), 0, -1);
        Calls back = inWeek(5);
        back.mark(0);
        back.clock(9);
        e.is("a night of now", back.night(0, 9), 0);
        back.back(0);
        e.is("gone back, a night of a week behind now", back.night(0, 6), -1);
        e.is("gone back, a night of now", back.night(0, 5), 0);
    }

    private static void lastOfAll(Edge e) {
        e.term("I", "on a NIGHT, of a STAR, at a THREAD");
        Calls x = Calls.sky(16, 24, 80);
        x.record(79, 23, 4, 15, 4, 148, -1);
        x.record(79, 22, 4, 15, 4, 150, -1);
        x.record(79, 23, 4, 14, 4, 145, -1);
        x.record(79, 23, 0, 15, 4, 104, -1);
        e.is("the last of all, seen", x.seen(15, 79, 23, 4, 0, 1), 128 + 124);
        e.is("the last of all, moved", x.moved(15, 79, 23, 4, 14, 0, 0), 125000);
        e.is("the last two met", x.two(15, 14, 0, 1), 1000);
        e.is("the last two are tied", x.tied(0), 1);
        // 128 and 124
        e.is("scatter of the last", x.scatter(4, 0), 8000);
        e.is("later than the last but one", x.later(15, 14, 0, 0, 1), 0);
        e.is("far from the last", x.far(15, 0), 16383);
    }

    /** Each record of another night, star or way than all others: as many of these as there may be. */
    private static Calls unlike(int records) {
        Calls x = new Calls().observers(2).stars(24, 10);
        for (int house : new int[] {0, 0, 0, 1, 1}) {
            x.night(house, 0);
        }
        int[] ways = {0, 1, 2, 4};
        for (int i = 0; i < records; i++) {
            x.record(i / 96, i / 4 % 24, 2, 0, ways[i % 4], i < 288 ? 5 : 12, -1);
        }
        return x;
    }

    private static void recordsUnlike(Edge e) {
        e.term("I", "RECORDS 0 to 399");
        Calls x = unlike(400);
        e.is("how many", x.count(4), 400);
        e.is("the first", x.seen(0, 0, 0, 0, 0, 1), 5);
        e.is("the last", x.seen(0, 4, 3, 4, 0, 1), 12);
        e.is("one behind the last", x.seen(0, 4, 4, 0, 0, 0), 0);
        e.is("nobody met", x.two(0, 1, 0, 0), 0);
        e.is("nobody is tied", x.tied(0), 0);
        e.is("no rope", x.far(0, 0), 2);
        e.is("no scatter", x.scatter(4, 0), -2);
        e.is("nothing said", x.said(0, 1, 0, 1), 1);
        e.is("no worlds", x.later(0, 1, 0, 0, 1), -2);
        // three nights of the one house, 96 sights on the one night of the other and 16 on the next
        e.is("longitude, how many", x.longitude(0, 1, 0, 1), 336);
        e.is("longitude", x.longitude(0, 1, 0, 0), 7000);
        lastRecords(e);
    }

    private static void lastRecords(Edge e) {
        Calls x = unlike(398);
        x.record(4, 3, 2, 0, 2, 12, -1);
        x.record(4, 3, 2, 1, 2, 13, -1);
        x.law("lean 1000");
        x.leans(1, 0);
        e.is("the last two met", x.two(1, 0, 0, 1), 1000);
        e.is("worlds of the last two", x.later(1, 0, 3, 0, 50), 50);
        e.is("worlds of the last two, the other way round", x.later(0, 1, 3, 0, 50), 0);
        e.is("said of the last two", x.said(1, 0, 0, 0), 1);
        e.is("a rope by the last two", x.rope(1, 0, 0, 1), 1000);
    }

    private static void recordNumbers(Edge e) {
        e.term("I", "RECORDS 0 to 399: on a NIGHT, of a STAR");
        Calls x = Worlds.oneOfEach();
        for (int i = 0; i < 400; i++) {
            e.is("record " + i, x.record(0, 0, i % 5, 0, i % 3, i, -1), i);
        }
        e.is("one more", x.record(0, 0, 0, 0, 0, 0, -1), -1);
        e.is("one more, a feigned one", x.record(0, 0, 0, 0, 3, 0, 0), -1);
        e.is("how many", x.count(4), 400);
        x.strike(0);
        e.is("one more, with one struck", x.record(0, 0, 0, 0, 0, 0, -1), -1);
        e.range("strike", 0, 399, r -> Worlds.withRecords(400).strike(r) ? 1 : 0, 1, 0);
        e.range("gives", 0, 399, r -> {
            Calls y = Worlds.withRecords(400);
            y.law("lean 5");
            return y.gives(0, r);
        }, 5, -1000000);
    }

    private static void recordOf(Edge e) {
        e.term("I", "at a THREAD (0 to 4)");
        e.range("record", 0, 4, thread -> Worlds.oneOfEach().record(0, 0, thread, 0, 0, 0, -1), 0, -1);
        e.range("feigned", 0, 4, thread -> Worlds.oneOfEach().record(0, 0, thread, 0, 3, 0, 0), 0, -1);
        e.term("I", "in a WAY (0 eye and ear, 1 key, 2 turns, 3 feigned, 4 plate)");
        e.range("record", 0, 4, way -> Worlds.oneOfEach().record(0, 0, 0, 0, way, 0, way == 3 ? 0 : -1), 0, -1);
        e.range("record with a truth", 3, 3, way -> Worlds.oneOfEach().record(0, 0, 0, 0, way, 0, 0), 0, -1);
        e.range("seen 0", 0, 4, way -> Worlds.oneOfEach().seen(0, 0, 0, way, 0, 0), 0, -1);
        e.range("seen 1", 0, 4, way -> Worlds.oneOfEach().seen(0, 0, 0, way, 0, 1), 0, ANY);
        e.range("scatter", 0, 4, way -> Worlds.oneOfEach().scatter(way, 0), -2, -1);
        e.range("moved", 0, 4, way -> Worlds.oneOfEach().moved(0, 0, 0, way, 0, 0, 0), ANY, THESE);
    }

    private static void tenths(Edge e) {
        e.term("I", "a TENTH (0 to 9999)");
        for (int way = 0; way < 5; way++) {
            int w = way;
            e.range("record in way " + w, 0, 9999,
                tenth -> Worlds.oneOfEach().record(0, 0, 2, 0, w, tenth, w == 3 ? 0 : -1), 0, -1);
        }
        e.term("I", "and what was TRUE there (0 to 9999; feigned ones alone, NONE for others)");
        e.range("feigned", 0, 9999, truth -> Worlds.oneOfEach().record(0, 0, 2, 0, 3, 0, truth), 0, -1);
        for (int way : new int[] {0, 1, 2, 4}) {
            e.range("way " + way, -1, -1, truth -> Worlds.oneOfEach().record(0, 0, 2, 0, way, 0, truth), 0, -1);
        }
    }

    private static void knownFromNow(Edge e) {
        e.term("I", "KNOWN from NOW on.");
        Calls x = Worlds.oneOfEach();
        x.clock(7);
        x.sees(0, 0, 0, 100);
        e.is("seen in the week before", x.seen(0, 0, 0, 0, 6, 0), 0);
        e.is("seen in that week", x.seen(0, 0, 0, 0, 7, 0), 1);
        e.is("seen in the week behind", x.seen(0, 0, 0, 0, 8, 0), 1);
        e.is("seen in week 0", x.seen(0, 0, 0, 0, 0, 0), 0);
        e.is("seen in the last week", x.seen(0, 0, 0, 0, 9999, 0), 1);
        x.clock(9999);
        x.sees(0, 0, 0, 100);
        e.is("one of the last week, before it", x.seen(0, 0, 0, 0, 9998, 0), 1);
        e.is("one of the last week, in it", x.seen(0, 0, 0, 0, 9999, 0), 2);
    }

    private static void struckFromNow(Edge e) {
        e.term("I", "STRUCK ones count no more from NOW on (from then).");
        Calls x = Worlds.oneOfEach();
        x.sees(0, 0, 0, 100);
        x.sees(0, 0, 0, 30);
        x.clock(7);
        x.strike(0);
        x.clock(9);
        e.is("in the week before", x.seen(0, 0, 0, 0, 6, 1), 130);
        e.is("in that week", x.seen(0, 0, 0, 0, 7, 1), 30);
        e.is("in the week behind", x.seen(0, 0, 0, 0, 8, 1), 30);
        e.is("now", x.seen(0, 0, 0, 0, 9, 1), 30);
        e.is("in the last week", x.seen(0, 0, 0, 0, 9999, 1), 30);
        x.clock(9999);
        x.strike(1);
        e.is("struck in the last week, before it", x.seen(0, 0, 0, 0, 9998, 1), 30);
        e.is("struck in the last week, in it", x.seen(0, 0, 0, 0, 9999, 0), 0);
        Calls first = Worlds.oneOfEach();
        first.sees(0, 0, 0, 100);
        first.strike(0);
        e.is("struck in week 0", first.seen(0, 0, 0, 0, 0, 0), 0);
    }

    private static void reduced(Edge e) {
        e.term("I", "REDUCED: the TENTH less (THREAD - 2) times the pace.");
        for (int pace : new int[] {1, 2, 98, 99}) {
            for (int thread = 0; thread < 5; thread++) {
                for (int tenth : new int[] {0, 9999}) {
                    Calls x = new Calls().observers(1).stars(1, pace).nights(1);
                    x.record(0, 0, thread, 0, 0, tenth, -1);
                    e.is("tenth " + tenth + " at thread " + thread + " by pace " + pace,
                        x.seen(0, 0, 0, 0, 0, 1), tenth - (thread - 2) * pace);
                }
            }
        }
        Calls greatest = new Calls().observers(1).stars(1, 99).nights(1);
        for (int i = 0; i < 400; i++) {
            greatest.record(0, 0, 0, 0, 0, 9999, -1);
        }
        e.is("all records at their greatest", greatest.seen(0, 0, 0, 0, 0, 1), 400 * 10197);
        e.is("their mean", greatest.moved(0, 0, 0, 0, 0, 0, 0), 10197000);
        Calls least = new Calls().observers(1).stars(1, 99).nights(1);
        for (int i = 0; i < 400; i++) {
            least.record(0, 0, 4, 0, 0, 0, -1);
        }
        e.is("all records at their least", least.seen(0, 0, 0, 0, 0, 1), -400 * 198);
    }

    private static void late(Edge e) {
        e.term("I", "LATE, of a feigned one: the TENTH less what was TRUE.");
        int[][] tenths = {{0, 0}, {0, 9999}, {9999, 0}, {9999, 9999}, {0, 1}, {1, 0}};
        for (int[] t : tenths) {
            Calls x = Worlds.oneOfEach();
            // far from the middle thread: the pace has no part in it
            x.record(0, 0, 4, 0, 3, t[0], t[1]);
            e.is("late, " + t[0] + " of " + t[1], x.own(0, -1, 0, 1), 1000 * (t[0] - t[1]));
        }
    }

    private static void asKnown(Edge e) {
        e.term("I", "RECORDS KNOWN by it and not STRUCK by it.");
        Calls x = Worlds.oneOfEach();
        x.clock(4);
        x.sees(0, 0, 0, 100);
        x.clock(5);
        x.strike(0);
        int[] want = {0, 1, 0, 0};
        for (int known = 3; known <= 6; known++) {
            e.is("known for one week, in week " + known, x.seen(0, 0, 0, 0, known, 0), want[known - 3]);
        }
        Calls y = Worlds.oneOfEach();
        y.clock(4);
        y.sees(0, 0, 0, 100);
        y.strike(0);
        for (int known = 3; known <= 5; known++) {
            e.is("struck at once, in week " + known, y.seen(0, 0, 0, 0, known, 0), 0);
        }
    }

    private static void seenOf(Edge e) {
        e.term("I", "SEEN by an OBSERVER on a NIGHT of a STAR in a WAY: his RECORDS of these: how many, "
            + "REDUCED together.");
        Calls x = Calls.sky(2, 2, 2);
        e.is("nothing, how many", x.seen(0, 0, 0, 0, 0, 0), 0);
        e.is("nothing, together", x.seen(0, 0, 0, 0, 0, 1), 0);
        x.sees(1, 0, 0, 1);
        x.sees(0, 1, 0, 2);
        x.sees(0, 0, 1, 4);
        x.record(0, 0, 2, 0, 1, 8, -1);
        e.is("others, how many", x.seen(0, 0, 0, 0, 0, 0), 0);
        e.is("others, together", x.seen(0, 0, 0, 0, 0, 1), 0);
        x.sees(0, 0, 0, 16);
        e.is("one, how many", x.seen(0, 0, 0, 0, 0, 0), 1);
        e.is("one, together", x.seen(0, 0, 0, 0, 0, 1), 16);
        x.sees(0, 0, 0, 16);
        e.is("two alike, how many", x.seen(0, 0, 0, 0, 0, 0), 2);
        e.is("two alike, together", x.seen(0, 0, 0, 0, 0, 1), 32);
        Calls full = Worlds.oneOfEach();
        for (int i = 0; i < 400; i++) {
            full.sees(0, 0, 0, i);
        }
        e.is("all that there may be, how many", full.seen(0, 0, 0, 0, 0, 0), 400);
        e.is("all that there may be, together", full.seen(0, 0, 0, 0, 0, 1), 79800);
    }
}
