/** Promises 1 to 8 and 33: a new object, clock, observer, star, night, record, strike, seen, count. */
public final class BookTest {
    private static final Due DUE = new Due();

    public static void main(String[] args) {
        aNewObject();
        clock();
        observer();
        star();
        night();
        record();
        strike();
        seen();
        count();
        DUE.close("BookTest");
    }

    private static void aNewObject() {
        EachLater x = new EachLater();
        for (int what = 0; what <= 7; what++) {
            DUE.is("new: count " + what, x.count(what), 0);
        }
        DUE.is("NONE", EachLater.NONE, -1);
        DUE.is("new: no observer", x.far(0, 0), -1);
        DUE.is("new: nobody to tie", x.tied(0), 0);
        DUE.is("new: nobody is next", x.next(), -2);
        DUE.is("new: nothing to plan", x.plan(0, 0), 0);
        DUE.is("new: no way is finest", x.finest(0), -2);
        DUE.is("new: no mark", x.back(0), -1);
        DUE.is("new: no longitude", x.longitude(0, 1, 0, 1), 0);
    }

    private static void clock() {
        EachLater x = new EachLater();
        DUE.is("clock: its own week", x.clock(0), true);
        DUE.is("clock: below 0", x.clock(-1), false);
        DUE.is("clock: later", x.clock(7), true);
        DUE.is("clock: now", x.count(0), 7);
        DUE.is("clock: earlier", x.clock(6), false);
        DUE.is("clock: nothing happened", x.count(0), 7);
        DUE.is("clock: too late", x.clock(10000), false);
        DUE.is("clock: nothing happened again", x.count(0), 7);
        DUE.is("clock: the last week", x.clock(9999), true);
        DUE.is("clock: the last week again", x.clock(9999), true);
        DUE.is("clock: far off", x.clock(Integer.MAX_VALUE), false);
        DUE.is("clock: far back", x.clock(Integer.MIN_VALUE), false);
    }

    private static void observer() {
        EachLater x = new EachLater();
        DUE.is("observer: too early", x.observer(-5001), -1);
        DUE.is("observer: too late", x.observer(10000), -1);
        DUE.is("observer: earliest", x.observer(-5000), 0);
        DUE.is("observer: born behind now", x.observer(9999), 1);
        for (int i = 2; i < 16; i++) {
            DUE.is("observer " + i, x.observer(i), i);
        }
        DUE.is("observer: the seventeenth", x.observer(0), -1);
        DUE.is("observer: how many", x.count(1), 16);
    }

    private static void star() {
        EachLater x = new EachLater();
        DUE.is("star: too dark", x.star(-1, 1, 0), -1);
        DUE.is("star: too bright", x.star(10, 1, 0), -1);
        DUE.is("star: too slow", x.star(0, 0, 0), -1);
        DUE.is("star: too fast", x.star(0, 100, 0), -1);
        DUE.is("star: side below 0", x.star(0, 1, -1), -1);
        DUE.is("star: side above 1", x.star(0, 1, 2), -1);
        DUE.is("star: none made", x.count(2), 0);
        DUE.is("star: least", x.star(0, 1, 0), 0);
        DUE.is("star: greatest", x.star(9, 99, 1), 1);
        for (int i = 2; i < 24; i++) {
            DUE.is("star " + i, x.star(5, 50, 1), i);
        }
        DUE.is("star: one too many", x.star(5, 50, 1), -1);
        DUE.is("star: how many", x.count(2), 24);
    }

    private static void night() {
        EachLater x = new EachLater();
        DUE.is("night: behind now", x.night(0, 1), -1);
        DUE.is("night: before week 0", x.night(0, -1), -1);
        DUE.is("night: house below 0", x.night(-1, 0), -1);
        DUE.is("night: house above 3", x.night(4, 0), -1);
        DUE.is("night: now", x.night(3, 0), 0);
        x.clock(9999);
        DUE.is("night: the last week", x.night(0, 9999), 1);
        DUE.is("night: an old week", x.night(0, 5), 2);
        DUE.is("night: no week", x.night(0, 10000), -1);
        for (int i = 3; i < 80; i++) {
            DUE.is("night " + i, x.night(i % 4, i), i);
        }
        DUE.is("night: one too many", x.night(0, 0), -1);
        DUE.is("night: how many", x.count(3), 80);
    }

    private static EachLater oneOfEach() {
        EachLater x = new EachLater();
        x.observer(0);
        x.star(5, 20, 1);
        x.night(0, 0);
        return x;
    }

    private static void record() {
        EachLater x = oneOfEach();
        DUE.is("record: no night", x.record(1, 0, 0, 0, 0, 0, -1), -1);
        DUE.is("record: night below 0", x.record(-1, 0, 0, 0, 0, 0, -1), -1);
        DUE.is("record: no star", x.record(0, 1, 0, 0, 0, 0, -1), -1);
        DUE.is("record: star below 0", x.record(0, -1, 0, 0, 0, 0, -1), -1);
        DUE.is("record: thread below 0", x.record(0, 0, -1, 0, 0, 0, -1), -1);
        DUE.is("record: thread above 4", x.record(0, 0, 5, 0, 0, 0, -1), -1);
        DUE.is("record: no observer", x.record(0, 0, 0, 1, 0, 0, -1), -1);
        DUE.is("record: observer below 0", x.record(0, 0, 0, -1, 0, 0, -1), -1);
        DUE.is("record: way below 0", x.record(0, 0, 0, 0, -1, 0, -1), -1);
        DUE.is("record: way above 4", x.record(0, 0, 0, 0, 5, 0, -1), -1);
        DUE.is("record: tenth below 0", x.record(0, 0, 0, 0, 0, -1, -1), -1);
        DUE.is("record: tenth above 9999", x.record(0, 0, 0, 0, 0, 10000, -1), -1);
        DUE.is("record: truth of no feigned one", x.record(0, 0, 0, 0, 0, 0, 0), -1);
        DUE.is("record: truth of a plate", x.record(0, 0, 0, 0, 4, 0, 7), -1);
        DUE.is("record: truth -2", x.record(0, 0, 0, 0, 0, 0, -2), -1);
        DUE.is("record: feigned without truth", x.record(0, 0, 0, 0, 3, 0, -1), -1);
        DUE.is("record: feigned, truth above 9999", x.record(0, 0, 0, 0, 3, 0, 10000), -1);
        DUE.is("record: none made", x.count(4), 0);
        DUE.is("record: feigned, least", x.record(0, 0, 0, 0, 3, 0, 0), 0);
        DUE.is("record: feigned, greatest", x.record(0, 0, 4, 0, 3, 9999, 9999), 1);
        for (int i = 2; i < 400; i++) {
            DUE.is("record " + i, x.record(0, 0, i % 5, 0, i % 3, 9999, -1), i);
        }
        DUE.is("record: one too many", x.record(0, 0, 0, 0, 0, 0, -1), -1);
        DUE.is("record: how many", x.count(4), 400);
    }

    private static void strike() {
        EachLater x = oneOfEach();
        x.clock(5);
        x.record(0, 0, 2, 0, 0, 100, -1);
        x.record(0, 0, 2, 0, 0, 200, -1);
        x.clock(8);
        DUE.is("strike: below 0", x.strike(-1), false);
        DUE.is("strike: none", x.strike(2), false);
        DUE.is("strike", x.strike(0), true);
        DUE.is("strike: again", x.strike(0), false);
        x.clock(9);
        DUE.is("strike: again later", x.strike(0), false);
        DUE.is("strike: before", x.seen(0, 0, 0, 0, 7, 0), 2);
        DUE.is("strike: from then", x.seen(0, 0, 0, 0, 8, 0), 1);
        DUE.is("strike: from then, together", x.seen(0, 0, 0, 0, 8, 1), 200);
        DUE.is("strike: counted still", x.count(4), 2);
        DUE.is("strike: not known yet", x.seen(0, 0, 0, 0, 4, 0), 0);
        DUE.is("strike: known from", x.seen(0, 0, 0, 0, 5, 0), 2);
        x.record(0, 0, 2, 0, 0, 300, -1);
        DUE.is("strike: at once", x.strike(2), true);
        DUE.is("strike: never counted", x.seen(0, 0, 0, 0, 9, 0), 1);
    }

    private static void seen() {
        EachLater x = oneOfEach();
        x.observer(0);
        x.record(0, 0, 0, 0, 0, 100, -1);
        x.record(0, 0, 4, 0, 0, 100, -1);
        x.record(0, 0, 4, 0, 0, 0, -1);
        x.record(0, 0, 3, 0, 3, 70, 60);
        x.record(0, 0, 2, 1, 0, 5000, -1);
        DUE.is("seen: how many", x.seen(0, 0, 0, 0, 0, 0), 3);
        DUE.is("seen: reduced", x.seen(0, 0, 0, 0, 0, 1), 140 + 60 - 40);
        DUE.is("seen: feigned", x.seen(0, 0, 0, 3, 0, 0), 1);
        DUE.is("seen: feigned, reduced", x.seen(0, 0, 0, 3, 0, 1), 50);
        DUE.is("seen: the other", x.seen(1, 0, 0, 0, 9999, 1), 5000);
        DUE.is("seen: nothing", x.seen(1, 0, 0, 1, 0, 0), 0);
        DUE.is("seen: nothing together", x.seen(1, 0, 0, 1, 0, 1), 0);
        int[][] wrong = {{2, 0, 0, 0, 0}, {-1, 0, 0, 0, 0}, {0, 1, 0, 0, 0}, {0, -1, 0, 0, 0}, {0, 0, 1, 0, 0},
            {0, 0, -1, 0, 0}, {0, 0, 0, 5, 0}, {0, 0, 0, -1, 0}, {0, 0, 0, 0, -1}, {0, 0, 0, 0, 10000}};
        for (int[] w : wrong) {
            DUE.is("seen: wrong, how many", x.seen(w[0], w[1], w[2], w[3], w[4], 0), -1);
            DUE.is("seen: wrong, together", x.seen(w[0], w[1], w[2], w[3], w[4], 1), -1000000000);
            DUE.is("seen: wrong, another what", x.seen(w[0], w[1], w[2], w[3], w[4], 2), -1000000000);
        }
        DUE.is("seen: another what", x.seen(0, 0, 0, 0, 0, 2), -1000000000);
        DUE.is("seen: what below 0", x.seen(0, 0, 0, 0, 0, -1), -1000000000);
    }

    private static void count() {
        EachLater x = oneOfEach();
        x.observer(0);
        x.clock(3);
        x.record(0, 0, 0, 0, 0, 1, -1);
        x.record(0, 0, 0, 0, 0, 1, -1);
        x.record(0, 0, 0, 0, 0, 1, -1);
        x.strike(1);
        Texts.law(x, "lean 1");
        x.journey(0, 1, 1);
        x.journey(0, 1, 1);
        x.feed(0, 0, 0, 0, 0);
        int[] want = {3, 2, 1, 1, 3, 1, 2, 20};
        for (int what = 0; what < want.length; what++) {
            DUE.is("count " + what, x.count(what), want[what]);
        }
        DUE.is("count -1", x.count(-1), -1);
        DUE.is("count 8", x.count(8), -1);
    }
}
