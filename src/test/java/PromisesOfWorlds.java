import java.util.Arrays;

/** Promises 29 to 33: leans, later, mark, back, count. */
final class PromisesOfWorlds {
    private static final int MIN = Integer.MIN_VALUE;
    private static final int MAX = Integer.MAX_VALUE;

    private PromisesOfWorlds() {
    }

    static void hold(Edge e) {
        leans(e);
        leansNot(e);
        later(e);
        laterWithout(e);
        mark(e);
        back(e);
        backNot(e);
        count(e);
    }

    /** 0 and 1 have met; one law makes 0 later, the other earlier, when it is his. */
    private static Calls met() {
        Calls x = Calls.sky(2, 1, 1).meet(0, 0, 0, 5, 1, 5);
        x.law("lean 1000");
        x.law("lean 0 - 1000");
        return x;
    }

    private static void leans(Edge e) {
        e.promise(29, "An OBSERVER has a LAW of his own (NONE: none): true;");
        Calls x = met();
        e.is("the first law", x.leans(0, 0), true);
        e.is("it counts", x.later(0, 1, 0, 0, 1), 1);
        e.is("the last law", x.leans(0, 1), true);
        e.is("it counts in its place", x.later(1, 0, 0, 0, 1), 1);
        e.is("none", x.leans(0, -1), true);
        e.is("none counts", x.later(0, 1, 0, 0, 1), 0);
        e.is("none counts, the other way round", x.later(1, 0, 0, 0, 1), 0);
        e.is("none again", x.leans(0, -1), true);
        e.is("the last observer", x.leans(1, 1), true);
        e.is("his counts", x.later(0, 1, 0, 0, 1), 1);
        e.is("none where there are no laws", Worlds.withObservers(1).leans(0, -1), true);
        e.is("the last of ten laws", Worlds.withLaws(10).leans(0, 9), true);
        e.is("the last of sixteen", Worlds.withObservers(16).leans(15, -1), true);
    }

    private static void leansNot(Edge e) {
        e.promise(29, "false, and nothing happens, for others.");
        int[][] wrong = {{-1, 0}, {4, 0}, {MIN, 0}, {MAX, 0}, {-1, -1}, {4, -1}, {0, -2}, {0, 2}, {0, 9}, {0, 10},
            {0, MIN}, {0, MAX}, {1, 2}, {2, -2}};
        for (int[] w : wrong) {
            e.nothing("leans" + Arrays.toString(w), Worlds::rich, x -> x.leans(w[0], w[1]) ? 1 : 0, 0);
        }
        e.nothing("a law that is not yet", Worlds::oneOfEach, x -> x.leans(0, 0) ? 1 : 0, 0);
        e.nothing("nobody", Worlds::empty, x -> x.leans(0, -1) ? 1 : 0, 0);
        e.is("the eleventh of ten laws", Worlds.withLaws(10).leans(0, 10), false);
        e.is("the seventeenth of sixteen", Worlds.withObservers(16).leans(16, -1), false);
        Calls x = met();
        x.leans(0, 0);
        x.leans(0, 2);
        x.leans(0, -2);
        e.is("his law is as it was", x.later(0, 1, 0, 0, 1), 1);
    }

    private static void later(Edge e) {
        e.promise(30, "LATER; -2: no MEETINGS;");
        Calls x = met();
        x.leans(0, 0);
        e.is("one world", x.later(0, 1, 0, 0, 1), 1);
        e.is("fifty worlds", x.later(0, 1, 2147483647, 0, 50), 50);
        e.is("none of fifty", x.later(1, 0, 2147483647, 0, 50), 0);
        e.is("no meetings", Calls.sky(2, 1, 1).later(0, 1, 0, 0, 1), -2);
        Calls one = Calls.sky(2, 1, 1);
        one.sees(0, 0, 0, 5);
        e.is("one alone has seen it", one.later(0, 1, 0, 0, 1), -2);
        one.sees(1, 0, 0, 5);
        e.is("both have", one.later(0, 1, 0, 0, 1), 0);
        one.clock(1);
        one.strike(0);
        e.is("struck now", one.later(0, 1, 0, 0, 1), -2);
        e.is("as known before they had met", one.two(0, 1, 0, 0), 1);
        e.nothing("later", Worlds::rich, y -> y.later(0, 3, 5, 5, 5), -2);
        Calls twice = met();
        int first = twice.later(0, 1, 9, 50, 50);
        e.is("the same again", twice.later(0, 1, 9, 50, 50), first);
        e.nothing("later with slips", PromisesOfWorlds::met, y -> y.later(0, 1, 9, 50, 50), first);
    }

    private static void laterWithout(Edge e) {
        e.promise(30, "NONE without these.");
        int[][] wrong = {{0, 0, 0, 0, 1}, {3, 3, 0, 0, 1}, {-1, 0, 0, 0, 1}, {0, -1, 0, 0, 1}, {4, 0, 0, 0, 1},
            {0, 4, 0, 0, 1}, {0, 1, -1, 0, 1}, {0, 1, MIN, 0, 1}, {0, 1, 0, -1, 1}, {0, 1, 0, 100, 1},
            {0, 1, 0, MIN, 1},
            {0, 1, 0, MAX, 1}, {0, 1, 0, 0, 0}, {0, 1, 0, 0, 51}, {0, 1, 0, 0, -1}, {0, 1, 0, 0, MIN},
            {0, 1, 0, 0, MAX},
            {MIN, 0, 0, 0, 1}, {0, MAX, 0, 0, 1}, {0, 3, -1, 0, 1}, {0, 3, 0, 0, 0}};
        for (int[] w : wrong) {
            e.nothing("later" + Arrays.toString(w), Worlds::rich, x -> x.later(w[0], w[1], w[2], w[3], w[4]), -1);
        }
        e.is("the greatest of all", met().later(0, 1, MAX, 99, 50) >= 0, true);
        e.is("the least of all", met().later(0, 1, 0, 0, 1), 0);
    }

    private static void mark(Edge e) {
        e.promise(31, "A MARK is made: NOW;");
        for (int now : new int[] {0, 1, 9999}) {
            for (int k = 0; k < 4; k++) {
                Calls x = new Calls();
                x.clock(now);
                e.is("mark " + k + " in week " + now, x.mark(k), now);
            }
        }
        Calls x = new Calls();
        x.observer(0);
        x.mark(2);
        x.clock(5);
        x.observer(0);
        e.is("made anew", x.mark(2), 5);
        x.observer(0);
        x.clock(9);
        e.is("the newer one is gone back to", x.back(2), 5);
        e.is("with what was then", x.count(1), 2);
        Calls marked = Worlds.rich();
        marked.mark(0);
        marked.back(0);
        Calls only = Worlds.rich();
        only.mark(0);
        e.sameLater("a mark gone back to at once", marked, only);
        e.promise(31, "NONE without it.");
        for (int k : new int[] {MIN, -1, 4, 5, MAX}) {
            e.nothing("mark(" + k + ")", Worlds::rich, y -> y.mark(k), -1);
        }
    }

    private static void back(Edge e) {
        e.promise(32, "It is gone back to a MARK: NOW;");
        for (int k = 0; k < 4; k++) {
            Calls x = new Calls();
            x.clock(7);
            x.mark(k);
            x.clock(9);
            e.is("back to " + k, x.back(k), 7);
            e.is("now", x.count(0), 7);
            e.is("again", x.back(k), 7);
        }
        Calls x = Worlds.rich();
        e.is("to one of a week before", x.back(1), 0);
        e.is("to one behind that", x.back(3), 60);
        e.is("and before again", x.back(1), 0);
        e.is("records then", x.count(4), 6);
    }

    private static void backNot(Edge e) {
        e.promise(32, "or without it.");
        for (int k : new int[] {MIN, -1, 4, 5, MAX}) {
            e.nothing("back(" + k + ")", Worlds::rich, x -> x.back(k), -1);
        }
        e.promise(32, "NONE, and nothing happens, if it was never made,");
        // the rich world has marks 1 and 3
        for (int k : new int[] {0, 2}) {
            e.nothing("back(" + k + ")", Worlds::rich, x -> x.back(k), -1);
        }
        for (int k = 0; k < 4; k++) {
            int never = k;
            e.nothing("back(" + k + "), no mark made", Worlds::oneOfEach, x -> x.back(never), -1);
            Calls others = new Calls();
            for (int i = 0; i < 4; i++) {
                if (i != k) {
                    others.mark(i);
                }
            }
            e.is("all made but " + k, others.back(k), -1);
        }
        Calls x = new Calls();
        x.mark(0);
        x.mark(1);
        x.back(0);
        e.is("one made behind the other is still there", x.back(1), 0);
    }

    private static void count(Edge e) {
        e.promise(33, "What 0: NOW, 1: OBSERVERS, 2: STARS, 3: NIGHTS, 4: RECORDS (STRUCK ones, too), 5: LAWS, "
            + "6: JOURNEYS, 7: bytes of the TAPE.");
        int[] want = {61, 4, 2, 4, 15, 2, 2, 20};
        for (int what = 0; what < 8; what++) {
            int w = what;
            e.nothing("count(" + what + ")", Worlds::rich, x -> x.count(w), want[what]);
        }
        int[] most = {9999, 16, 24, 80, 0, 10, 9, 400};
        Calls x = new Calls();
        x.clock(9999);
        x.observers(16).stars(24, 1).nights(80);
        for (int i = 0; i < 10; i++) {
            x.law("lean 1");
        }
        for (int i = 0; i < 9; i++) {
            x.journey(0, 1, 1);
        }
        x.fed("a".repeat(400));
        for (int what = 0; what < 8; what++) {
            e.is("at its most, count(" + what + ")", x.count(what), most[what]);
        }
        Calls records = Worlds.withRecords(400);
        records.strike(0);
        records.strike(399);
        e.is("all records, two struck", records.count(4), 400);
        e.promise(33, "NONE for others.");
        for (int what : new int[] {MIN, -2, -1, 8, 9, MAX}) {
            e.nothing("count(" + what + ")", Worlds::rich, y -> y.count(what), -1);
        }
    }
}
