/** Terms V and VI: old nights moved, longitudes; journeys, who is tied, what a master could say. */
final class TermsFiveAndSix {
    private TermsFiveAndSix() {
    }

    static void hold(Edge e) {
        moved(e);
        past(e);
        longitude(e);
        longitudeOfNights(e);
        longitudeOfMeans(e);
        longitudeWithout(e);
        longitudeDownwards(e);
        journeys(e);
        tied(e);
        plan(e);
        planOfSeveral(e);
        next(e);
        said(e);
    }

    private static void moved(Edge e) {
        e.term("V", "MOVED to an OBSERVER z: what a SEEN (of an OBSERVER, NIGHT, STAR, WAY) says,");
        Calls x = Calls.sky(3, 2, 3);
        x.meet(0, 0, 0, 100, 1, 104).meet(1, 0, 1, 100, 2, 101);
        x.record(2, 1, 4, 0, 4, 0, -1);
        x.record(2, 1, 4, 0, 4, 0, -1);
        x.record(2, 1, 4, 0, 4, 1, -1);
        x.record(2, 1, 4, 0, 3, 30, 0);
        e.is("to himself", x.moved(0, 0, 0, 0, 0, 0, 0), 100000);
        e.is("another night", x.moved(0, 1, 0, 0, 0, 0, 0), -1000000000);
        e.is("another star", x.moved(0, 0, 1, 0, 0, 0, 0), -1000000000);
        e.is("another way", x.moved(0, 0, 0, 4, 0, 0, 0), -1000000000);
        e.is("another observer", x.moved(2, 0, 0, 0, 0, 0, 0), -1000000000);
        e.is("a feigned one", x.moved(0, 2, 1, 3, 0, 0, 0), 10000);
        e.term("V", "its mean in thousandths, downwards,");
        // -20, -20, -19
        e.is("below 0", x.moved(0, 2, 1, 4, 0, 0, 0), -19667);
        Calls third = Calls.sky(2, 1, 1);
        third.sees(0, 0, 0, 5);
        third.sees(1, 0, 0, 5);
        third.sees(1, 0, 0, 5);
        third.sees(1, 0, 0, 6);
        e.is("above 0", third.moved(1, 0, 0, 0, 1, 0, 0), 5333);
        e.is("a whole one", third.moved(0, 0, 0, 0, 0, 0, 0), 5000);
        e.term("V", "less the LEAN of the ROPE from him to z.");
        e.is("to one whom he met", x.moved(0, 2, 1, 4, 1, 0, 0), -19667 + 4000);
        e.is("to one whom he never met", x.moved(0, 2, 1, 4, 2, 0, 0), -19667 + 5000);
        e.is("the other way", x.moved(2, 1, 0, 0, 0, 0, 0), 101000 - 5000);
        e.is("a feigned one", x.moved(0, 2, 1, 3, 1, 0, 0), 14000);
        // the mean of 1 is 5333, downwards, his lean to 0 is 333; the lean of 0 to him is -334
        e.is("each downwards", third.moved(1, 0, 0, 0, 0, 0, 0), 5000);
        e.is("each downwards, the other way", third.moved(0, 0, 0, 0, 1, 0, 0), 5334);
    }

    /** One met once, so 1000 wide: 0 is this many tenths above 1. */
    private static Calls above(int tenths) {
        return Calls.sky(2, 1, 1).meet(0, 0, 0, 100 + tenths, 1, 100);
    }

    private static void past(Edge e) {
        e.term("V", "PAST: the move (without sign) is above the WIDTH of that ROPE.");
        for (int tenths = -2; tenths <= 2; tenths++) {
            e.is("a move by " + tenths, above(tenths).moved(0, 0, 0, 0, 1, 0, 1), Math.abs(tenths) > 1 ? 1 : 0);
        }
        e.is("to himself", above(9).moved(0, 0, 0, 0, 0, 0, 1), 0);
        // 1 is above 0 by one tenth and the 999th part of one: 19 / 27 + 1 less 26 / 37
        Calls x = Calls.sky(2, 1, 1);
        for (int i = 0; i < 37; i++) {
            x.sees(0, 0, 0, i < 26 ? 1 : 0);
        }
        for (int i = 0; i < 27; i++) {
            x.sees(1, 0, 0, i < 19 ? 2 : 1);
        }
        e.is("the least move above the width", x.rope(1, 0, 0, 1), 1001);
        e.is("the width", x.rope(1, 0, 0, 2), 1000);
        e.is("the least move above the width is past", x.moved(1, 0, 0, 0, 0, 0, 1), 1);
        e.is("the same below", x.moved(0, 0, 0, 0, 1, 0, 1), 1);
        // a rope of two links is as wide as both together
        Calls two = Calls.sky(3, 1, 2).meet(0, 0, 0, 100, 1, 101).meet(1, 0, 1, 100, 2, 101);
        e.is("two links, not past", two.moved(0, 0, 0, 0, 2, 0, 1), 0);
        Calls wider = Calls.sky(3, 1, 2).meet(0, 0, 0, 100, 1, 101).meet(1, 0, 1, 100, 2, 102);
        e.is("two links, past", wider.moved(0, 0, 0, 0, 2, 0, 1), 1);
    }

    /** A night of each house in week 5, of house 0 in weeks 4 and 6, too; 0 and 1 have met, 3 tenths apart. */
    private static Calls houses() {
        Calls x = new Calls().observers(3).stars(2, 10);
        x.clock(6);
        for (int house = 0; house < 4; house++) {
            x.night(house, 5);
        }
        x.night(0, 4);
        x.night(0, 6);
        x.night(3, 0);
        return x.meet(6, 1, 0, 100, 1, 103);
    }

    private static void longitude(Edge e) {
        e.term("V", "LONGITUDE of two HOUSES g, h (unlike):");
        for (int g = 0; g < 4; g++) {
            for (int h = 0; h < 4; h++) {
                Calls x = houses();
                x.sees(0, g, 0, 100);
                x.sees(1, h, 0, 160);
                // 1 is 3 tenths above 0, so of 60 tenths 57 are left
                e.is("of houses " + g + ", " + h, x.longitude(g, h, 6, 0), g == h ? -2000000000 : 57000);
            }
        }
        e.term("V", "each STAR, each WAY (not feigned),");
        for (int way = 0; way < 5; way++) {
            Calls x = houses();
            x.record(0, 0, 2, 0, way, 100, way == 3 ? 0 : -1);
            x.record(1, 0, 2, 1, way, 160, way == 3 ? 0 : -1);
            e.is("in way " + way, x.longitude(0, 1, 6, 1), way == 3 ? 0 : 1);
            x.record(0, 1, 2, 0, way, 100, way == 3 ? 0 : -1);
            e.is("another star at the one, way " + way, x.longitude(0, 1, 6, 1), way == 3 ? 0 : 1);
            x.record(1, 1, 2, 1, way, 100, way == 3 ? 0 : -1);
            e.is("another star at both, way " + way, x.longitude(0, 1, 6, 1), way == 3 ? 0 : 2);
            x.record(0, 0, 2, 0, (way + 1) % 3, 100, -1);
            e.is("another way at the one, beside " + way, x.longitude(0, 1, 6, 1), way == 3 ? 0 : 2);
        }
    }

    private static void longitudeOfNights(Edge e) {
        e.term("V", "for each NIGHT of g, each NIGHT of h of the same WEEK,");
        Calls x = houses();
        x.sees(1, 1, 0, 160);
        x.sees(0, 4, 0, 100);
        e.is("the week before", x.longitude(0, 1, 6, 1), 0);
        x.sees(0, 5, 0, 100);
        e.is("the week behind", x.longitude(0, 1, 6, 1), 0);
        x.sees(0, 0, 0, 100);
        e.is("the same week", x.longitude(0, 1, 6, 1), 1);
        x.night(0, 5);
        x.sees(0, 7, 0, 100);
        e.is("two nights of the one", x.longitude(0, 1, 6, 1), 2);
        x.night(1, 5);
        x.sees(1, 8, 0, 160);
        e.is("two nights of the other", x.longitude(0, 1, 6, 1), 4);
        e.is("the other way round", x.longitude(1, 0, 6, 1), 4);
        e.is("all alike", x.longitude(0, 1, 6, 0), 57000);
        e.term("V", "each OBSERVER a with SEEN on the one and b on the other:");
        Calls y = houses();
        y.sees(0, 0, 0, 100);
        e.is("one alone", y.longitude(0, 1, 6, 1), 0);
        y.sees(0, 0, 0, 102);
        y.sees(1, 1, 0, 160);
        e.is("several records are one", y.longitude(0, 1, 6, 1), 1);
        y.sees(0, 1, 0, 150);
        e.is("himself on the other, too", y.longitude(0, 1, 6, 1), 2);
        y.sees(1, 0, 0, 107);
        e.is("both on both", y.longitude(0, 1, 6, 1), 4);
        y.sees(2, 1, 0, 150);
        e.is("a third on the other", y.longitude(0, 1, 6, 1), 6);
        y.strike(2);
        e.is("all of his on the one struck but one", y.longitude(0, 1, 6, 1), 6);
        y.strike(3);
        e.is("all of his on the one struck", y.longitude(0, 1, 6, 1), 3);
    }

    private static void longitudeOfMeans(Edge e) {
        e.term("V", "b's mean less a's (each in thousandths, downwards), less the LEAN of the ROPE from b to a;");
        Calls x = houses();
        x.sees(0, 0, 0, 100);
        x.sees(0, 0, 0, 102);
        x.sees(1, 1, 0, 160);
        e.is("a mean of two", x.longitude(0, 1, 6, 0), 160000 - 101000 - 3000);
        x.sees(0, 1, 0, 150);
        // 0 and 1 met on that night, too: 3 and 10 below, 6500 together by 2; 0 with himself leans nothing
        e.is("with himself", x.longitude(0, 1, 6, 0), Math.floorDiv(49000 + 59000 - 6500, 2));
        Calls thirds = new Calls().observers(1).stars(1, 10);
        thirds.night(0, 0);
        thirds.night(1, 0);
        thirds.sees(0, 0, 0, 10);
        thirds.sees(0, 0, 0, 10);
        thirds.sees(0, 0, 0, 11);
        thirds.sees(0, 1, 0, 10);
        thirds.sees(0, 1, 0, 11);
        thirds.sees(0, 1, 0, 11);
        // 10666 and 10333: each mean is downwards by itself
        e.is("each mean downwards", thirds.longitude(0, 1, 0, 0), 333);
        e.is("each mean downwards, the other way round", thirds.longitude(1, 0, 0, 0), -333);
        // -20, -20, -19 at the one house: -19667, downwards; 0 at the other
        Calls below = new Calls().observers(1).stars(1, 10);
        below.night(0, 0);
        below.night(1, 0);
        below.record(0, 0, 4, 0, 0, 0, -1);
        below.record(0, 0, 4, 0, 0, 0, -1);
        below.record(0, 0, 4, 0, 0, 1, -1);
        below.sees(0, 1, 0, 0);
        e.is("a mean below 0", below.longitude(0, 1, 0, 0), 19667);
        e.is("a mean below 0, the other way round", below.longitude(1, 0, 0, 0), -19667);
        // a third of a tenth between two who met: 334 below, 333 above
        Calls lean = new Calls().observers(2).stars(2, 10);
        lean.night(0, 0);
        lean.night(1, 0);
        lean.sees(0, 0, 1, 10);
        lean.sees(1, 0, 1, 10);
        lean.sees(1, 0, 1, 10);
        lean.sees(1, 0, 1, 11);
        lean.sees(0, 0, 0, 50);
        lean.sees(1, 1, 0, 50);
        e.is("the lean from b to a", lean.longitude(0, 1, 0, 0), -333);
        e.is("the lean from b to a, the other way round", lean.longitude(1, 0, 0, 0), 334);
    }

    private static void longitudeWithout(Edge e) {
        e.term("V", "those without a ROPE do not count:");
        Calls x = houses();
        x.sees(0, 0, 0, 100);
        x.sees(2, 1, 0, 160);
        e.is("without a rope, how many", x.longitude(0, 1, 6, 1), 0);
        e.is("without a rope", x.longitude(0, 1, 6, 0), -1000000000);
        x.sees(1, 1, 0, 140);
        // 2 and 1 have met now, at house 1: 20 apart; 1 to 0 leans 3, 2 to 0 leans 23
        e.is("with a rope now, how many", x.longitude(0, 1, 6, 1), 2);
        e.is("with a rope now", x.longitude(0, 1, 6, 0), 37000);
        Calls y = houses();
        y.sees(0, 0, 0, 100);
        y.sees(1, 1, 0, 160);
        y.sees(2, 0, 0, 100);
        y.clock(7);
        y.strike(0);
        // 2 and 0 met at house 0, but 0 and 1 no more
        e.is("the rope's end struck", y.longitude(0, 1, 7, 1), 0);
        e.is("before", y.longitude(0, 1, 6, 1), 2);
    }

    private static void longitudeDownwards(Edge e) {
        e.term("V", "together, by how many, downwards.");
        Calls x = new Calls().observers(1).stars(1, 10);
        for (int i = 0; i < 4; i++) {
            x.night(i == 0 ? 0 : 1, 0);
        }
        x.sees(0, 0, 0, 10);
        x.sees(0, 1, 0, 10);
        x.sees(0, 2, 0, 10);
        e.is("of two alike", x.longitude(0, 1, 0, 0), 0);
        x.sees(0, 3, 0, 11);
        e.is("of three, above", x.longitude(0, 1, 0, 0), 333);
        e.is("of three, below", x.longitude(1, 0, 0, 0), -334);
    }

    private static void journeys(Edge e) {
        e.term("VI", "JOURNEYS 0 to 8:");
        Calls x = new Calls().observers(3);
        for (int i = 0; i < 9; i++) {
            e.is("journey " + i, x.journey(i % 3, (i + 1) % 3, 1), i);
        }
        e.is("the tenth", x.journey(0, 1, 1), -1);
        e.is("how many", x.count(6), 9);
        e.term("VI", "would bring OBSERVERS a, b (unlike) together,");
        for (int a = 0; a < 3; a++) {
            for (int b = 0; b < 3; b++) {
                e.is("of " + a + ", " + b, new Calls().observers(3).journey(a, b, 1), a == b ? -1 : 0);
            }
        }
        Calls one = new Calls().observers(2);
        one.journey(0, 1, 99);
        e.is("it would bring them together", one.tied(0), 0);
        e.is("it brings them together", one.tied(1), 1);
        e.is("it is no meeting", one.two(0, 1, 0, 0), 0);
        e.is("nor a rope", one.rope(0, 1, 0, 0), -2);
        e.term("VI", "for so many weeks (1 to 99).");
        e.range("weeks", 1, 99, weeks -> new Calls().observers(2).journey(0, 1, weeks), 0, -1);
        for (int weeks : Edge.about(1, 99)) {
            Calls y = new Calls().observers(2);
            y.journey(0, 1, weeks);
            e.is("the weeks that it lasts, " + weeks, y.plan(999, 2), weeks >= 1 && weeks <= 99 ? weeks : 0);
        }
    }

    private static void tied(Edge e) {
        e.term("VI", "TIED: pairs of OBSERVERS between whom a row of links leads "
            + "(MEETINGS KNOWN NOW, and JOURNEYS made).");
        e.is("of nobody", new Calls().tied(0), 0);
        e.is("of one", Worlds.withObservers(1).tied(0), 0);
        Calls x = Calls.sky(16, 1, 15);
        int pairs = 0;
        for (int i = 0; i < 15; i++) {
            e.is("with " + i + " links in a row", x.tied(0), pairs);
            x.meet(i, 0, i, 5, i + 1, 5);
            pairs += i + 1;
        }
        e.is("all sixteen", x.tied(0), 120);
        x.meet(0, 0, 0, 5, 15, 5);
        e.is("all sixteen in a ring", x.tied(0), 120);
        Calls y = Calls.sky(6, 1, 2).meet(0, 0, 0, 5, 1, 5);
        y.journey(1, 2, 1);
        y.journey(3, 4, 1);
        y.journey(2, 3, 1);
        y.journey(0, 1, 1);
        int[] want = {1, 3, 2, 4, 2, 6, 4, 10, 1, 3, 2, 4, 2, 6, 4, 10};
        for (int set = 0; set < 16; set++) {
            e.is("with the set " + set, y.tied(set), want[set]);
        }
        for (int n : new int[] {2, 3, 16}) {
            Calls ends = new Calls().observers(n);
            ends.journey(n - 1, 0, 1);
            e.is("the last with the first of " + n, ends.tied(1), 1);
            Calls turned = new Calls().observers(n);
            turned.journey(0, n - 1, 1);
            e.is("the first with the last of " + n, turned.tied(1), 1);
        }
        y.clock(4);
        y.strike(1);
        e.is("the meeting struck", y.tied(0), 0);
        e.is("the journey in its place", y.tied(8), 1);
        y.sees(1, 0, 0, 5);
        e.is("met again", y.tied(0), 1);
    }

    private static void plan(Edge e) {
        e.term("VI", "PLAN for so many weeks: the set of JOURNEYS with weeks together not above these:");
        Calls x = new Calls().observers(4);
        x.journey(0, 1, 3);
        x.journey(2, 3, 4);
        int[] want = {0, 0, 0, 1, 1, 1, 1, 3, 3};
        for (int weeks = 0; weeks < want.length; weeks++) {
            e.is("for " + weeks + " weeks", x.plan(weeks, 0), want[weeks]);
        }
        Calls all = new Calls().observers(10);
        for (int i = 0; i < 9; i++) {
            all.journey(i, i + 1, 99);
        }
        e.is("all nine, the weeks just enough", all.plan(891, 0), 511);
        e.is("all nine, their weeks", all.plan(891, 2), 891);
        e.is("all nine, who is tied", all.plan(891, 1), 45);
        e.is("one week too few", all.plan(890, 0), 255);
        e.is("weeks more than enough", all.plan(999, 0), 511);
        e.is("one", all.plan(99, 0), 1);
        e.is("none", all.plan(98, 0), 0);
        e.is("without journeys", new Calls().observers(2).plan(999, 0), 0);
    }

    private static void planOfSeveral(Edge e) {
        e.term("VI", "most TIED;");
        Calls x = Calls.sky(5, 1, 1).meet(0, 0, 1, 5, 2, 5);
        x.journey(3, 4, 1);
        x.journey(0, 1, 9);
        e.is("more of them for more weeks", x.plan(9, 0), 2);
        e.is("fewer where these are too many", x.plan(8, 0), 1);
        e.is("how many are tied", x.plan(9, 1), 3);
        e.term("VI", "of several the fewest weeks;");
        Calls y = new Calls().observers(2);
        y.journey(0, 1, 3);
        y.journey(0, 1, 2);
        y.journey(1, 0, 4);
        e.is("the shortest", y.plan(9, 0), 2);
        e.is("its weeks", y.plan(9, 2), 2);
        e.is("none that ties nobody more", Calls.sky(2, 1, 1).meet(0, 0, 0, 5, 1, 5).plan(9, 0), 0);
        Calls met = Calls.sky(2, 1, 1).meet(0, 0, 0, 5, 1, 5);
        met.journey(0, 1, 1);
        e.is("they have met: no journey", met.plan(9, 0), 0);
        e.is("they have met: no weeks", met.plan(9, 2), 0);
        e.term("VI", "then the least number (bits).");
        Calls z = new Calls().observers(3);
        z.journey(0, 1, 2);
        z.journey(1, 2, 2);
        z.journey(0, 2, 2);
        e.is("one of three alike", z.plan(2, 0), 1);
        e.is("two of three alike", z.plan(9, 0), 3);
        Calls sets = new Calls().observers(3);
        sets.journey(0, 1, 2);
        sets.journey(1, 2, 3);
        sets.journey(0, 1, 2);
        sets.journey(1, 2, 3);
        e.is("the least number of four sets", sets.plan(5, 0), 3);
        Calls last = new Calls().observers(3);
        last.journey(0, 1, 3);
        last.journey(1, 2, 1);
        last.journey(0, 2, 2);
        e.is("weeks go before the number", last.plan(4, 0), 6);
    }

    private static void next(Edge e) {
        e.term("VI", "NEXT: the pair a, b (a below b) not TIED,");
        e.is("of nobody", new Calls().next(), -2);
        e.is("of one", Worlds.withObservers(1).next(), -2);
        e.is("of two", Worlds.withObservers(2).next(), 1);
        e.is("of two who met", Calls.sky(2, 1, 1).meet(0, 0, 0, 5, 1, 5).next(), -2);
        e.is("of two who met, the other first", Calls.sky(2, 1, 1).meet(0, 0, 1, 5, 0, 5).next(), -2);
        e.is("one and two who met", Calls.sky(3, 1, 1).meet(0, 0, 0, 5, 1, 5).next(), 2);
        Calls row = Calls.sky(16, 1, 15);
        for (int i = 0; i < 14; i++) {
            row.meet(i, 0, i, 5, i + 1, 5);
        }
        e.is("all but the last", row.next(), 15);
        row.meet(14, 0, 14, 5, 15, 5);
        e.is("all are tied, though not all have met", row.next(), -2);
        Calls known = Calls.sky(3, 1, 1).meet(0, 0, 0, 5, 1, 5);
        known.journey(0, 2, 1);
        e.is("a journey is not made", known.next(), 2);
        known.clock(1);
        known.strike(0);
        e.is("by what is known now", known.next(), 1);
        e.term("VI", "with whom brought together most would be TIED;");
        e.is("two, and two who met", Calls.sky(4, 1, 1).meet(0, 0, 2, 5, 3, 5).next(), 2);
        Calls pairs = Calls.sky(16, 1, 8);
        pairs.meet(0, 0, 14, 5, 15, 5).meet(1, 0, 12, 5, 13, 5);
        e.is("the last pairs", pairs.next(), 16 * 12 + 14);
        pairs.meet(2, 0, 3, 5, 9, 5).meet(3, 0, 9, 5, 11, 5);
        e.is("three and two", pairs.next(), 16 * 3 + 12);
        pairs.meet(4, 0, 13, 5, 10, 5).meet(5, 0, 10, 5, 8, 5);
        e.is("four and three", pairs.next(), 16 * 3 + 8);
        e.term("VI", "of several the least a, then b.");
        for (int n = 2; n <= 16; n++) {
            e.is("of " + n + " alike", Worlds.withObservers(n).next(), 1);
        }
        e.is("the least a of those who met", Calls.sky(3, 1, 1).meet(0, 0, 1, 5, 2, 5).next(), 1);
        Calls twos = Calls.sky(7, 1, 3).meet(0, 0, 1, 5, 6, 5).meet(1, 0, 2, 5, 5, 5).meet(2, 0, 3, 5, 4, 5);
        e.is("the least a, then the least b, of three twos", twos.next(), 16 + 2);
        Calls crossed = Calls.sky(6, 1, 3).meet(0, 0, 0, 5, 3, 5).meet(1, 0, 1, 5, 2, 5).meet(2, 0, 4, 5, 5, 5);
        e.is("the first two of six", crossed.next(), 1);
    }

    /** So many nights on which 0 is a tenth above 1, below him, and like him. */
    private static Calls heads(int above, int below, int same) {
        Calls x = Calls.sky(2, 1, Math.max(1, above + below + same));
        for (int i = 0; i < above + below + same; i++) {
            x.meet(i, 0, 0, 100 + (i < above ? 1 : i < above + below ? -1 : 0), 1, 100);
        }
        return x;
    }

    /** So many records of 0 and of 1, and how many of these at 1 tenth, the others at 0. */
    private static Calls shares(int manyA, int onesA, int manyB, int onesB) {
        Calls x = Calls.sky(2, 1, 1);
        for (int i = 0; i < manyA; i++) {
            x.sees(0, 0, 0, i < onesA ? 1 : 0);
        }
        for (int i = 0; i < manyB; i++) {
            x.sees(1, 0, 0, i < onesB ? 1 : 0);
        }
        return x;
    }

    private static void saidOfThousandths(Edge e) {
        // 19 / 27 less 26 / 37 is 1 / 999: one thousandth, downwards
        Calls above = shares(27, 19, 37, 26);
        e.is("the difference is 1", above.two(0, 1, 0, 1), 1);
        e.is("one thousandth above, those ways", above.said(0, 1, 0, 0), 1);
        e.is("one thousandth above, all", above.said(0, 1, 0, 1), 2);
        // 35 / 36 less 36 / 37 is 1 / 1332 below 0: downwards -1, the other way round 0
        Calls below = shares(36, 35, 37, 36);
        e.is("the difference is -1", below.two(0, 1, 0, 1), -1);
        e.is("one thousandth below, those ways", below.said(0, 1, 0, 0), 2);
        e.is("one thousandth below, all", below.said(0, 1, 0, 1), 2);
        e.is("the other way round the difference is 0", below.two(1, 0, 0, 1), 0);
        e.is("the other way round it counts not", below.said(1, 0, 0, 1), 1);
    }

    private static void said(Edge e) {
        e.term("VI", "SAID, by b of a: of their MEETINGS those with a DIFFERENCE that is not 0, n,");
        e.is("no meetings", heads(0, 0, 0).said(0, 1, 0, 1), 1);
        e.is("one that is 0", heads(0, 0, 1).said(0, 1, 0, 1), 1);
        e.is("one above", heads(1, 0, 0).said(0, 1, 0, 1), 2);
        e.is("one below", heads(0, 1, 0).said(0, 1, 0, 1), 2);
        e.is("one of each", heads(1, 1, 1).said(0, 1, 0, 1), 4);
        saidOfThousandths(e);
        e.term("VI", "of these h above 0:");
        e.is("one above, by the other of him", heads(1, 0, 0).said(0, 1, 0, 0), 1);
        e.is("one above, by him of the other", heads(1, 0, 0).said(1, 0, 0, 0), 2);
        e.is("three above, one below", heads(3, 1, 2).said(0, 1, 0, 0), 5);
        e.is("three above, one below, the other way round", heads(3, 1, 2).said(1, 0, 0, 0), 15);
        e.is("those that are 0 are not above", heads(0, 2, 5).said(0, 1, 0, 0), 4);
        e.term("VI", "of 2^n ways those with h or more heads.");
        int[][] tosses = {{0, 0, 0, 1, 1}, {0, 0, 5, 1, 1}, {1, 0, 0, 1, 2}, {0, 1, 0, 2, 2}, {2, 0, 0, 1, 4},
            {1, 1, 0, 3, 4}, {0, 2, 0, 4, 4}, {3, 1, 2, 5, 16}, {1, 3, 2, 15, 16}, {2, 2, 2, 11, 16}};
        for (int[] t : tosses) {
            Calls x = heads(t[0], t[1], t[2]);
            e.is(t[0] + " above, " + t[1] + " below", x.said(0, 1, 0, 0), t[3]);
            e.is("all ways of " + t[0] + " above, " + t[1] + " below", x.said(0, 1, 0, 1), t[4]);
        }
        saidOfSixty(e);
    }

    private static void saidOfSixty(Edge e) {
        long most = 1L << 60;
        e.is("sixty, none above", heads(0, 60, 0).said(0, 1, 0, 0), most);
        e.is("sixty, one above", heads(1, 59, 0).said(0, 1, 0, 0), most - 1);
        e.is("sixty, two above", heads(2, 58, 0).said(0, 1, 0, 0), most - 61);
        e.is("sixty, all but one above", heads(59, 1, 0).said(0, 1, 0, 0), 61);
        e.is("sixty, all above", heads(60, 0, 0).said(0, 1, 0, 0), 1);
        // half of all ways have more heads than not, or as many: 60 over 30 is 118264581564861424
        e.is("sixty, half above", heads(30, 30, 0).said(0, 1, 0, 0), (most + 118264581564861424L) / 2);
        e.is("sixty, one more than half above", heads(31, 29, 0).said(0, 1, 0, 0), (most - 118264581564861424L) / 2);
        e.is("all ways of sixty", heads(30, 30, 0).said(0, 1, 0, 1), most);
        e.is("fifty-nine, half above", heads(30, 29, 0).said(0, 1, 0, 0), most / 4);
        e.is("all ways of fifty-nine", heads(59, 0, 0).said(0, 1, 0, 1), most / 2);
    }
}
