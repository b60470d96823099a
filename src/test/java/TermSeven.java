/** Term VII: each one's own law, worlds drawn by seed, marks; the constants; how many calls an object serves. */
final class TermSeven {
    private static final long MULTIPLIER = 1103515245L;
    private static final long MODULUS = 2147483648L;

    private TermSeven() {
    }

    static void hold(Edge e) {
        ownLaw(e);
        seeds(e);
        slips(e);
        theirRecords(e);
        inPlaceOfTheTenth(e);
        drawn(e);
        slipOf(e);
        later(e);
        aboveZero(e);
        marks(e);
        kept(e);
        lawsStay(e);
        constants(e);
        calls(e);
    }

    /** 0 and 1 met once, 0 having seen it first. */
    private static Calls met() {
        return Calls.sky(2, 1, 1).meet(0, 0, 0, 100, 1, 100);
    }

    private static void ownLaw(Edge e) {
        e.term("VII", "Each OBSERVER may have a LAW of his own (none at first).");
        Calls x = met();
        x.law("lean 5000");
        e.is("none at first", x.later(0, 1, 0, 0, 1), 0);
        e.is("none at first, the other", x.later(1, 0, 0, 0, 1), 0);
        x.leans(0, 0);
        e.is("the one has one", x.later(0, 1, 0, 0, 1), 1);
        e.is("the other has none", x.later(1, 0, 0, 0, 1), 0);
        x.leans(1, 0);
        e.is("both have the same", x.later(0, 1, 0, 0, 1), 0);
        x.leans(0, -1);
        e.is("the one has none again", x.later(1, 0, 0, 0, 1), 1);
        Calls last = Calls.sky(16, 1, 1).meet(0, 0, 14, 5, 15, 5);
        last.law("lean 5000");
        last.leans(15, 0);
        e.is("the sixteenth has one", last.later(15, 14, 0, 0, 1), 1);
        e.is("the fifteenth has none", last.later(14, 15, 0, 0, 1), 0);
    }

    private static void seeds(Edge e) {
        e.term("VII", "WORLDS of a and b: by a seed (0 to 2147483647)");
        for (int seed : new int[] {Integer.MIN_VALUE, -2, -1}) {
            e.is("seed " + seed, met().later(0, 1, seed, 0, 1), -1);
        }
        for (int seed : new int[] {0, 1, 2, 1 << 30, 2147483646, 2147483647}) {
            e.is("seed " + seed, met().later(0, 1, seed, 0, 1), 0);
            for (int slip : new int[] {1, 7, 99}) {
                e.is("seed " + seed + ", slip " + slip, met().later(0, 1, seed, slip, 50), inTurn(seed, slip, 50));
            }
        }
    }

    /** In how many worlds the first of two slips is above the second. */
    private static int inTurn(long seed, int slip, int n) {
        long x = seed;
        int above = 0;
        for (int i = 0; i < n; i++) {
            x = (x * MULTIPLIER + 12345) % MODULUS;
            long one = x / 65536 % (2 * slip + 1);
            x = (x * MULTIPLIER + 12345) % MODULUS;
            above += one > x / 65536 % (2 * slip + 1) ? 1 : 0;
        }
        return above;
    }

    private static void slips(Edge e) {
        e.term("VII", "and a slip (0 to 99):");
        e.range("slip", 0, 99, slip -> met().later(0, 1, 5, slip, 50), -1);
        for (int slip : new int[] {0, 1, 98, 99}) {
            e.is("by the slip " + slip, met().later(0, 1, 5, slip, 50), inTurn(5, slip, 50));
        }
    }

    private static void theirRecords(Edge e) {
        e.term("VII", "RECORDS in their MEETINGS, as KNOWN NOW, by numbers:");
        e.is("the one first", met().later(0, 1, 77, 9, 50), inTurn(77, 9, 50));
        Calls turned = Calls.sky(2, 1, 1).meet(0, 0, 1, 100, 0, 100);
        e.is("the other first", turned.later(1, 0, 77, 9, 50), inTurn(77, 9, 50));
        Calls x = Calls.sky(3, 2, 2);
        x.sees(2, 0, 0, 5);
        x.sees(0, 1, 0, 5);
        x.sees(0, 0, 1, 5);
        x.record(0, 0, 2, 0, 1, 5, -1);
        x.feigns(0, 0, 0, 5, 5);
        x.feigns(1, 0, 0, 5, 5);
        e.is("no meetings yet", x.later(0, 1, 77, 9, 50), -2);
        x.sees(0, 0, 0, 5);
        x.sees(1, 1, 1, 5);
        x.sees(1, 0, 0, 5);
        e.is("others draw nothing", x.later(0, 1, 77, 9, 50), inTurn(77, 9, 50));
        x.clock(3);
        x.sees(0, 0, 0, 5);
        x.strike(9);
        e.is("a struck one draws nothing", x.later(0, 1, 77, 9, 50), inTurn(77, 9, 50));
        x.strike(8);
        e.is("no meetings now", x.later(0, 1, 77, 9, 50), -2);
    }

    private static void inPlaceOfTheTenth(Edge e) {
        e.term("VII", "in place of the TENTH is (THREAD - 2) times the pace, more what his LAW gives (0 without) "
            + "by 1000, downwards, more a slip:");
        // far apart and at other threads: neither has a part in it
        Calls x = new Calls().observers(2).stars(1, 99).nights(1);
        x.record(0, 0, 0, 0, 0, 9999, -1);
        x.record(0, 0, 4, 1, 0, 0, -1);
        e.is("without laws", x.later(0, 1, 0, 0, 50), 0);
        e.is("without laws, the other way round", x.later(1, 0, 0, 0, 50), 0);
        String[] laws = {"0", "999", "1000", "1999", "0-1", "0-999", "0-1000", "0-1001", "thread*1000"};
        int[] tenths = {0, 0, 1, 1, -1, -1, -1, -2, 0};
        for (int i = 0; i < laws.length; i++) {
            x.law("lean " + laws[i]);
        }
        x.law("lean 4000");
        for (int i = 0; i < laws.length; i++) {
            for (int j = 0; j < laws.length - 1; j++) {
                x.leans(0, i);
                x.leans(1, j);
                e.is("by " + laws[i] + " and " + laws[j], x.later(0, 1, 0, 0, 1), tenths[i] > tenths[j] ? 1 : 0);
            }
        }
        x.leans(0, 9);
        x.leans(1, 8);
        e.is("each law of its own record", x.later(0, 1, 0, 0, 1), 0);
        e.is("each law of its own record, the other way round", x.later(1, 0, 0, 0, 1), 0);
    }

    private static void drawn(Edge e) {
        e.term("VII", "x becomes x * 1103515245 + 12345, of 2147483648 the rest;");
        // its first numbers drawn are 1043980748 and 288979989: slips -90 and -68
        e.is("the greatest seed", met().later(0, 1, 2147483647, 99, 1), inTurn(2147483647L, 99, 1));
        long x = 2147483647L;
        x = (x * MULTIPLIER + 12345) % MODULUS;
        e.is("the first drawn of the greatest seed", x, 1043980748L);
        int above = 0;
        for (int seed = 0; seed < 400; seed++) {
            above += inTurn(seed, 3, 1);
        }
        Calls y = met();
        int got = 0;
        for (int seed = 0; seed < 400; seed++) {
            got += y.later(0, 1, seed, 3, 1);
        }
        e.is("of seeds 0 to 399", got, above);
    }

    private static void slipOf(Edge e) {
        e.term("VII", "the slip is x / 65536 mod (2 * slip + 1), less slip.");
        // with a law of his own in tenths, 0 is above 1 while its slip is above that of 1 less so much
        for (int slip : new int[] {1, 2, 99}) {
            for (int lean : new int[] {-2 * slip, -2 * slip + 1, 0, 2 * slip, 2 * slip + 1}) {
                Calls x = met();
                x.law("lean 0 + " + Math.max(0, lean) + " * 1000 - " + Math.max(0, -lean) + " * 1000");
                x.leans(0, 0);
                e.is("slip " + slip + ", leaning " + lean, x.later(0, 1, 9, slip, 50), leaning(9, slip, lean, 50));
            }
        }
        e.is("no slip at all", met().later(0, 1, 9, 0, 50), 0);
    }

    private static int leaning(long seed, int slip, int lean, int n) {
        long x = seed;
        int above = 0;
        for (int i = 0; i < n; i++) {
            x = (x * MULTIPLIER + 12345) % MODULUS;
            long one = x / 65536 % (2 * slip + 1) - slip + lean;
            x = (x * MULTIPLIER + 12345) % MODULUS;
            above += one > x / 65536 % (2 * slip + 1) - slip ? 1 : 0;
        }
        return above;
    }

    private static void later(Edge e) {
        e.term("VII", "LATER: in how many of n WORLDS one behind the other (1 to 50; the seed goes on)");
        Calls leaning = met();
        leaning.law("lean 1000");
        leaning.leans(0, 0);
        int[] worlds = {Integer.MIN_VALUE, -1, 0, 1, 2, 49, 50, 51, Integer.MAX_VALUE};
        for (int n : worlds) {
            e.is("of " + n + " worlds", leaning.later(0, 1, 3, 0, n), n >= 1 && n <= 50 ? n : -1);
        }
        severalMeetings(e);
        for (int n = 1; n <= 50; n++) {
            e.is("of " + n + " worlds with slips", met().later(0, 1, 3, 9, n), inTurn(3, 9, n));
        }
    }

    /** By nights and observers, the records in their order: in how many worlds 0 is above 1. */
    private static int simulated(int[][] records, int nights, long seed, int slip, int n) {
        long x = seed;
        int above = 0;
        for (int world = 0; world < n; world++) {
            long[][] sums = new long[nights][4];
            for (int[] r : records) {
                x = (x * MULTIPLIER + 12345) % MODULUS;
                long tenth = r[1] == 0 ? r[0] : 0;
                sums[r[0]][r[1]] += tenth + x / 65536 % (2 * slip + 1) - slip;
                sums[r[0]][2 + r[1]]++;
            }
            long together = 0;
            for (long[] s : sums) {
                together += Math.floorDiv(1000 * (s[0] * s[3] - s[1] * s[2]), s[2] * s[3]);
            }
            above += Math.floorDiv(together, (long) nights) > 0 ? 1 : 0;
        }
        return above;
    }

    private static void severalMeetings(Edge e) {
        int[][] records = {{0, 0}, {1, 1}, {2, 0}, {0, 1}, {2, 1}, {1, 0}, {1, 0}, {2, 1}, {2, 1}, {0, 0}, {1, 1}};
        Calls x = Calls.sky(2, 1, 0);
        for (int week = 0; week < 3; week++) {
            x.clock(week);
            x.night(0, week);
        }
        for (int[] r : records) {
            x.sees(r[1], r[0], 0, 5);
        }
        // on night n he leans n tenths
        x.law("lean 1000 * week");
        x.leans(0, 0);
        for (int slip : new int[] {0, 1, 3, 9, 99}) {
            for (int n : new int[] {1, 2, 49, 50}) {
                e.is("three meetings, slip " + slip + ", " + n + " worlds", x.later(0, 1, 41, slip, n),
                    simulated(records, 3, 41, slip, n));
            }
        }
    }

    private static void aboveZero(Edge e) {
        e.term("VII", "a is APART from b above 0.");
        Calls x = met();
        x.law("lean 1000");
        x.law("lean 0-1000");
        e.is("at 0", x.later(0, 1, 3, 0, 50), 0);
        x.leans(0, 0);
        e.is("above 0", x.later(0, 1, 3, 0, 50), 50);
        x.leans(0, 1);
        e.is("below 0", x.later(0, 1, 3, 0, 50), 0);
        // 19 of 27 less 26 of 37 is the 999th part of a tenth: one thousandth, downwards
        Calls least = Calls.sky(2, 1, 2);
        for (int i = 0; i < 37; i++) {
            least.record(0, 0, i < 26 ? 0 : 1, 1, 0, 0, -1);
        }
        for (int i = 0; i < 27; i++) {
            least.record(0, 0, i < 19 ? 0 : 1, 0, 0, 0, -1);
        }
        least.law("lean 1000 if thread = 0");
        least.leans(0, 0);
        least.leans(1, 0);
        e.is("by one thousandth", least.later(0, 1, 3, 0, 50), 50);
        least.meet(1, 0, 0, 5, 1, 5);
        e.is("by half a thousandth, downwards", least.later(0, 1, 3, 0, 50), 0);
    }

    private static void marks(Edge e) {
        e.term("VII", "MARKS 0 to 3:");
        e.range("mark", 0, 3, k -> new Calls().mark(k), 0, -1);
        e.range("back", 0, 3, k -> {
            Calls x = new Calls();
            for (int i = 0; i < 4; i++) {
                x.mark(i);
            }
            return x.back(k);
        }, 0, -1);
        Calls x = new Calls();
        for (int i = 0; i < 4; i++) {
            x.clock(10 * i + 1);
            x.observer(0);
            e.is("mark " + i, x.mark(i), 10 * i + 1);
        }
        x.clock(99);
        for (int i : new int[] {2, 0, 3, 1}) {
            e.is("back to " + i, x.back(i), 10 * i + 1);
            e.is("observers at " + i, x.count(1), i + 1);
        }
    }

    private static void kept(Edge e) {
        e.term("VII", "NOW, OBSERVERS and their LAWS, STARS, NIGHTS, RECORDS (and which were STRUCK when), JOURNEYS, "
            + "as they are; gone back to, these are as they were");
        Calls x = Worlds.rich();
        x.mark(0);
        x.clock(90);
        x.observer(7);
        x.star(9, 9, 1);
        x.night(2, 88);
        x.record(4, 2, 1, 4, 2, 123, -1);
        x.strike(0);
        x.strike(1);
        x.journey(3, 4, 9);
        x.leans(0, 1);
        x.leans(1, -1);
        x.leans(2, 0);
        x.back(0);
        Calls y = Worlds.rich();
        y.mark(0);
        e.sameLater("going back", x, y);
        // twice to the same mark, with changes between
        Calls again = Worlds.rich();
        again.mark(2);
        again.strike(0);
        again.back(2);
        again.strike(1);
        again.leans(0, -1);
        again.observer(3);
        again.back(2);
        Calls once = Worlds.rich();
        once.mark(2);
        e.sameLater("going back twice", again, once);
        keptApart(e);
        Calls empty = new Calls();
        empty.mark(0);
        empty.clock(7);
        empty.observers(16).stars(24, 3).nights(80);
        empty.back(0);
        Calls fresh = new Calls();
        fresh.mark(0);
        e.sameLater("going back to nothing", empty, fresh);
        e.is("numbers begin again", struckTwice(), 1);
    }

    /** Another world is made in the place of the one, from nothing, and the one is gone back to. */
    private static void keptApart(Edge e) {
        Calls x = new Calls();
        x.mark(2);
        Worlds.enriched(x);
        x.mark(0);
        x.back(2);
        for (int i = 0; i < 16; i++) {
            x.observer(9000 + i);
            x.star(9, 90 - i, 1);
            x.night(3, 0);
        }
        for (int i = 0; i < 40; i++) {
            x.record(15 - i % 16, 15 - i % 16, i % 5, 15 - i % 16, 4, 9000 + i, -1);
            x.strike(i);
        }
        for (int i = 0; i < 16; i++) {
            x.leans(i, 1);
        }
        for (int i = 0; i < 9; i++) {
            x.journey(15 - i, i, 90 + i);
        }
        x.back(0);
        Calls y = new Calls();
        y.mark(2);
        Worlds.enriched(y);
        y.mark(0);
        e.sameLater("another world in its place", x, y);
    }

    /** A record made anew behind a mark is not struck, though the one of its number was. */
    private static int struckTwice() {
        Calls x = Worlds.oneOfEach();
        x.mark(0);
        x.sees(0, 0, 0, 5);
        x.strike(0);
        x.back(0);
        x.sees(0, 0, 0, 6);
        return x.strike(0) ? 1 : 0;
    }

    private static void lawsStay(Edge e) {
        e.term("VII", "(LAWS stay)");
        Calls x = met();
        x.law("lean 1000");
        x.mark(0);
        x.leans(0, 0);
        x.law("lean 2000");
        x.fed("lean 3");
        x.back(0);
        e.is("laws made behind it stay", x.count(5), 2);
        e.is("what they give", x.gives(1, 0), 2000);
        e.is("the tape stays", x.count(7), 6);
        e.is("it is a law", x.law(), 2);
        e.is("his law is as it was, none", x.later(0, 1, 0, 0, 1), 0);
        e.is("he may have one made behind it", x.leans(0, 1), true);
        e.is("which counts", x.later(0, 1, 0, 0, 1), 1);
        x.mark(1);
        x.leans(0, -1);
        x.back(1);
        e.is("gone back to, he has it again", x.later(0, 1, 0, 0, 1), 1);
    }

    private static void constants(Edge e) {
        e.of("Constants", "The constants: `NONE = -1`: None.");
        e.is("NONE", EachLater.NONE, -1);
        e.is("an observer that is none", new Calls().observer(-5001), EachLater.NONE);
    }

    private static void calls(Edge e) {
        e.of("Calls", "An object is used for at most 512 calls after it has been made; "
            + "what later calls answer is free.");
        Calls x = met();
        int before = x.made();
        for (int i = before; i < Calls.MOST - 1; i++) {
            x.two(0, 1, 0, 0);
        }
        e.is("the 512th call", x.two(0, 1, 0, 3), 1000);
        Calls y = new Calls();
        for (int i = 0; i < Calls.MOST - 1; i++) {
            y.mark(i % 4);
        }
        e.is("the 512th call, a mark before each", y.back(3), 0);
        Calls z = Worlds.oneOfEach();
        for (int i = 0; i < Calls.MOST - 4; i++) {
            z.record(0, 0, 2, 0, 0, 0, -1);
        }
        e.is("the 512th call, as many refused before it", z.count(4), 400);
        e.is("calls made", z.made(), Calls.MOST);
    }
}
