/** Promises 29 to 32: leans, later, mark, back. */
public final class WorldTest {
    private static final Due DUE = new Due();

    public static void main(String[] args) {
        leans();
        later();
        laterBySlips();
        laterDownwards();
        mark();
        back();
        backToEach();
        DUE.close("WorldTest");
    }

    private static EachLater metOnce() {
        EachLater x = new EachLater();
        x.observer(0);
        x.observer(0);
        x.star(0, 10, 0);
        x.night(0, 0);
        x.record(0, 0, 0, 0, 0, 5000, -1);
        x.record(0, 0, 4, 1, 0, 100, -1);
        Texts.law(x, "lean 1000");
        Texts.law(x, "lean 999");
        Texts.law(x, "lean 0 - 1");
        return x;
    }

    private static void leans() {
        EachLater x = metOnce();
        DUE.is("leans", x.leans(0, 0), true);
        DUE.is("leans: it counts", x.later(0, 1, 0, 0, 1), 1);
        DUE.is("leans: no law", x.leans(0, 3), false);
        DUE.is("leans: law below NONE", x.leans(0, -2), false);
        DUE.is("leans: no observer", x.leans(2, 0), false);
        DUE.is("leans: observer below 0", x.leans(-1, 0), false);
        DUE.is("leans: nothing happened", x.later(0, 1, 0, 0, 1), 1);
        DUE.is("leans: none", x.leans(0, -1), true);
        DUE.is("leans: none counts", x.later(0, 1, 0, 0, 1), 0);
    }

    private static void later() {
        EachLater x = metOnce();
        DUE.is("later: like each other", x.later(0, 1, 0, 0, 50), 0);
        x.leans(0, 0);
        DUE.is("later: in all", x.later(0, 1, 0, 0, 50), 50);
        DUE.is("later: in none", x.later(1, 0, 0, 0, 50), 0);
        int[][] wrong = {{0, 0, 0, 0, 1}, {2, 0, 0, 0, 1}, {0, 2, 0, 0, 1}, {-1, 0, 0, 0, 1}, {0, -1, 0, 0, 1},
            {0, 1, -1, 0, 1}, {0, 1, 0, -1, 1}, {0, 1, 0, 100, 1}, {0, 1, 0, 0, 0}, {0, 1, 0, 0, 51}};
        for (int[] w : wrong) {
            DUE.is("later: wrong", x.later(w[0], w[1], w[2], w[3], w[4]), -1);
        }
        x.clock(1);
        x.strike(0);
        DUE.is("later: no meetings now", x.later(0, 1, 0, 0, 1), -2);
        x.record(0, 0, 2, 0, 3, 100, 100);
        x.record(0, 0, 2, 1, 3, 100, 100);
        DUE.is("later: no feigned ones", x.later(0, 1, 0, 0, 1), -2);
    }

    private static void laterBySlips() {
        EachLater x = metOnce();
        // a record outside their meetings draws nothing
        x.record(0, 0, 2, 0, 1, 100, -1);
        long number = 123456789;
        int above = 0;
        for (int i = 0; i < 50; i++) {
            number = (number * 1103515245L + 12345L) % 2147483648L;
            long first = number / 65536 % 7 - 3;
            number = (number * 1103515245L + 12345L) % 2147483648L;
            long second = number / 65536 % 7 - 3;
            above += first > second ? 1 : 0;
            DUE.is("later: " + (i + 1) + " worlds", x.later(0, 1, 123456789, 3, i + 1), above);
        }
        // slips -90 and -68
        DUE.is("later: the greatest seed and slip", x.later(0, 1, 2147483647, 99, 1), 0);
        DUE.is("later: the same, the other way", x.later(1, 0, 2147483647, 99, 1), 1);
    }

    private static void laterDownwards() {
        EachLater x = metOnce();
        x.leans(0, 1);
        DUE.is("later: 999 thousandths are no tenth", x.later(0, 1, 0, 0, 1), 0);
        x.leans(0, -1);
        x.leans(1, 2);
        DUE.is("later: -1 thousandth is -1 tenth", x.later(0, 1, 0, 0, 1), 1);
        x.leans(0, 2);
        DUE.is("later: both", x.later(0, 1, 0, 0, 1), 0);
        EachLater full = new EachLater();
        full.observer(0);
        full.observer(0);
        full.star(0, 10, 0);
        full.night(0, 0);
        for (int i = 0; i < 400; i++) {
            full.record(0, 0, 2, i < 399 ? 0 : 1, 0, 100, -1);
        }
        Texts.law(full, "lean 1000");
        full.leans(1, 0);
        DUE.is("later: the last record, too", full.later(1, 0, 7, 0, 50), 50);
        DUE.is("later: of unlike numbers", full.later(0, 1, 7, 0, 50), 0);
    }

    private static void mark() {
        EachLater x = metOnce();
        x.clock(9);
        DUE.is("mark", x.mark(3), 9);
        DUE.is("mark: below 0", x.mark(-1), -1);
        DUE.is("mark: above 3", x.mark(4), -1);
        x.clock(10);
        DUE.is("mark: made anew", x.mark(3), 10);
        x.clock(11);
        DUE.is("mark: the newer one", x.back(3), 10);
    }

    private static void back() {
        EachLater x = metOnce();
        x.leans(0, 0);
        x.clock(5);
        x.strike(0);
        x.record(0, 0, 2, 0, 0, 300, -1);
        x.journey(0, 1, 7);
        x.mark(0);
        x.clock(20);
        x.observer(1);
        x.star(1, 1, 1);
        x.night(1, 20);
        x.record(1, 1, 1, 2, 1, 1, -1);
        x.strike(1);
        x.strike(2);
        x.journey(0, 2, 7);
        x.leans(0, 2);
        x.leans(1, 2);
        Texts.law(x, "lean 5");
        x.feed(0, 0, 0, 0, 0);
        DUE.is("back: never made", x.back(1), -1);
        DUE.is("back: below 0", x.back(-1), -1);
        DUE.is("back: above 3", x.back(4), -1);
        DUE.is("back: nothing happened", x.count(0), 20);
        DUE.is("back", x.back(0), 5);
        int[] want = {5, 2, 1, 1, 3, 4, 1, 20};
        for (int what = 0; what < want.length; what++) {
            DUE.is("back: count " + what, x.count(what), want[what]);
        }
        DUE.is("back: struck then", x.strike(0), false);
        DUE.is("back: seen before", x.seen(0, 0, 0, 0, 4, 1), 5020);
        DUE.is("back: seen from then", x.seen(0, 0, 0, 0, 5, 1), 300);
        DUE.is("back: his law", x.later(0, 1, 0, 0, 1), 1);
        DUE.is("back: no law of the other", x.later(1, 0, 0, 0, 1), 0);
        DUE.is("back: struck later, not now", x.strike(1), true);
        DUE.is("back: again", x.back(0), 5);
        DUE.is("back: again not struck", x.strike(1), true);
    }

    private static void backToEach() {
        EachLater x = metOnce();
        x.mark(0);
        x.record(0, 0, 2, 0, 1, 11, -1);
        x.observer(77);
        x.mark(1);
        x.back(0);
        x.record(0, 0, 2, 1, 2, 22, -1);
        x.observer(99);
        x.mark(2);
        DUE.is("marks: the second stands", x.back(1), 0);
        DUE.is("marks: its record", x.seen(0, 0, 0, 1, 0, 1), 11);
        DUE.is("marks: not the third's", x.seen(1, 0, 0, 2, 0, 0), 0);
        DUE.is("marks: the third", x.back(2), 0);
        DUE.is("marks: its record there", x.seen(1, 0, 0, 2, 0, 1), 22);
        DUE.is("marks: not the second's", x.seen(0, 0, 0, 1, 0, 0), 0);
        DUE.is("marks: the first", x.back(0), 0);
        DUE.is("marks: two observers", x.count(1), 2);
    }
}
