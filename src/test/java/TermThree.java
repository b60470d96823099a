/** Term III: meetings, how far two are apart, ropes. */
final class TermThree {
    private TermThree() {
    }

    static void hold(Edge e) {
        unlike(e);
        bothSeen(e);
        difference(e);
        apart(e);
        span(e);
        width(e);
        ropes(e);
        leastWidth(e);
        fewestLinks(e);
        firstByObservers(e);
        lean(e);
        toHimself(e);
    }

    private static void unlike(Edge e) {
        e.term("III", "MEETINGS of OBSERVERS a, b (unlike), as KNOWN in a WEEK");
        Calls x = Calls.sky(2, 1, 1).meet(0, 0, 0, 5, 1, 5);
        e.is("two of unlike ones", x.two(0, 1, 0, 0), 1);
        e.is("the other way round", x.two(1, 0, 0, 0), 1);
        e.is("of one with himself", x.two(0, 0, 0, 0), -2000000000);
        e.is("said of himself", x.said(0, 0, 0, 1), -1);
        e.is("later than himself", x.later(0, 0, 0, 0, 1), -1);
        Calls y = Calls.sky(2, 1, 1);
        y.clock(3);
        y.sees(0, 0, 0, 5);
        y.clock(5);
        y.sees(1, 0, 0, 5);
        y.clock(8);
        y.strike(0);
        int[] want = {0, 0, 1, 1, 1, 0, 0};
        for (int known = 3; known <= 9; known++) {
            e.is("as known in week " + known, y.two(0, 1, known, 0), want[known - 3]);
        }
    }

    private static void bothSeen(Edge e) {
        e.term("III", "NIGHT, STAR, WAY (not feigned) for which both have SEEN something");
        for (int way = 0; way < 5; way++) {
            for (int other = 0; other < 5; other++) {
                Calls x = Calls.sky(2, 1, 1);
                x.record(0, 0, 2, 0, way, 5, way == 3 ? 0 : -1);
                e.is("one alone in way " + way, x.two(0, 1, 0, 0), 0);
                x.record(0, 0, 2, 1, other, 5, other == 3 ? 0 : -1);
                e.is("in ways " + way + ", " + other, x.two(0, 1, 0, 0), way == other && way != 3 ? 1 : 0);
            }
        }
        Calls x = Calls.sky(2, 2, 2);
        x.sees(0, 0, 0, 5);
        x.sees(1, 1, 0, 5);
        x.sees(1, 0, 1, 5);
        e.is("on unlike nights, of unlike stars", x.two(0, 1, 0, 0), 0);
        x.sees(0, 1, 1, 5);
        e.is("on that night of the other star", x.two(0, 1, 0, 0), 0);
        x.record(0, 0, 4, 1, 0, 5, -1);
        e.is("at another thread", x.two(0, 1, 0, 0), 1);
        x.sees(1, 0, 0, 6);
        x.clock(1);
        x.strike(4);
        e.is("one of his struck", x.two(0, 1, 1, 0), 1);
        x.strike(5);
        e.is("all of his struck", x.two(0, 1, 1, 0), 0);
        bothSeenInTurn(e);
        Calls most = Calls.sky(2, 5, 10);
        for (int i = 0; i < 200; i++) {
            int way = i % 4 == 3 ? 4 : i % 4;
            most.record(i / 20, i / 4 % 5, 2, 0, way, 8, -1);
            most.record(i / 20, i / 4 % 5, 2, 1, way, 7, -1);
        }
        e.is("as many as there may be", most.two(0, 1, 0, 0), 200);
        e.is("of so many, apart", most.two(0, 1, 0, 1), 1000);
    }

    private static void bothSeenInTurn(Edge e) {
        Calls x = Calls.sky(2, 3, 2);
        for (int observer = 0; observer < 2; observer++) {
            for (int i = 0; i < 12; i++) {
                x.record(i / 6, i / 2 % 3, 2, observer, i % 2, 5 + observer, -1);
            }
        }
        e.is("all stars by the one, then by the other", x.two(1, 0, 0, 0), 12);
        e.is("all of them alike", x.two(1, 0, 0, 2), 0);
        // what was asked before has no part in what is asked then
        Calls y = Calls.sky(2, 1, 2);
        y.sees(0, 0, 0, 5);
        y.sees(1, 1, 0, 5);
        e.is("on unlike nights", y.two(0, 1, 0, 0), 0);
        y.clock(1);
        y.strike(0);
        y.sees(0, 0, 0, 5);
        e.is("on unlike nights, one struck and made anew", y.two(0, 1, 1, 0), 0);
        y.sees(1, 0, 0, 5);
        e.is("on one night, then", y.two(0, 1, 1, 0), 1);
        e.is("on unlike nights, before", y.two(0, 1, 0, 0), 0);
    }

    /** Two who saw one star on one night, each of them all of his tenths. */
    private static Calls met(int[] tenthsA, int[] tenthsB) {
        Calls x = Calls.sky(2, 1, 1);
        for (int tenth : tenthsA) {
            x.sees(0, 0, 0, tenth);
        }
        for (int tenth : tenthsB) {
            x.sees(1, 0, 0, tenth);
        }
        return x;
    }

    private static void difference(Edge e) {
        e.term("III", ": the DIFFERENCE: a's mean REDUCED less b's, in thousandths, downwards (of the exact one).");
        // a third less two thirds: each downwards by itself would be 333 less 666
        Calls thirds = met(new int[] {0, 0, 1}, new int[] {0, 1, 1});
        e.is("a third below, downwards", thirds.two(0, 1, 0, 1), -334);
        e.is("a third above, downwards", thirds.two(1, 0, 0, 1), 333);
        // 0 less a third, a third less 0
        Calls third = met(new int[] {0}, new int[] {0, 0, 1});
        e.is("0 less a third", third.two(0, 1, 0, 1), -334);
        e.is("a third less 0", third.two(1, 0, 0, 1), 333);
        Calls whole = met(new int[] {7}, new int[] {10, 10});
        e.is("a whole one below", whole.two(0, 1, 0, 1), -3000);
        e.is("a whole one above", whole.two(1, 0, 0, 1), 3000);
        Calls same = met(new int[] {1, 2}, new int[] {3, 0});
        e.is("the same mean", same.two(0, 1, 0, 1), 0);
        e.is("the same mean, the other way round", same.two(1, 0, 0, 1), 0);
        Calls far = new Calls().observers(2).stars(1, 99).nights(1);
        far.record(0, 0, 0, 0, 0, 9999, -1);
        far.record(0, 0, 4, 1, 0, 0, -1);
        e.is("as far above as may be", far.two(0, 1, 0, 1), 10395000);
        e.is("as far below as may be", far.two(1, 0, 0, 1), -10395000);
    }

    /** On each night one more MEETING of 0 and 1, by so many tenths. */
    private static Calls apartBy(int... tenths) {
        Calls x = Calls.sky(2, 1, tenths.length);
        for (int i = 0; i < tenths.length; i++) {
            x.meet(i, 0, 0, 100 + tenths[i], 1, 100);
        }
        return x;
    }

    private static void apart(Edge e) {
        e.term("III", "APART: all DIFFERENCES together, by how many, downwards.");
        e.is("of none", Calls.sky(2, 1, 1).two(0, 1, 0, 1), -1000000000);
        e.is("of one", apartBy(-3).two(0, 1, 0, 1), -3000);
        e.is("of two", apartBy(-1, 0).two(0, 1, 0, 1), -500);
        e.is("of three, below", apartBy(-1, 0, 0).two(0, 1, 0, 1), -334);
        e.is("of three, above", apartBy(1, 0, 0).two(0, 1, 0, 1), 333);
        e.is("of three, none over", apartBy(1, -1, 0).two(0, 1, 0, 1), 0);
        e.is("of seven, below", apartBy(-1, 0, 0, 0, 0, 0, 0).two(0, 1, 0, 1), -143);
        // each DIFFERENCE is downwards first: twice -334, not two thirds
        Calls x = Calls.sky(2, 1, 2);
        for (int night = 0; night < 2; night++) {
            x.sees(0, night, 0, 0);
            x.sees(1, night, 0, 0);
            x.sees(1, night, 0, 0);
            x.sees(1, night, 0, 1);
        }
        e.is("of two that are downwards themselves", x.two(0, 1, 0, 1), -334);
        e.is("of the same, the other way round", x.two(1, 0, 0, 1), 333);
    }

    private static void span(Edge e) {
        e.term("III", "SPAN: the greatest less the least of them.");
        e.is("of none", Calls.sky(2, 1, 1).two(0, 1, 0, 2), -1000000000);
        e.is("of one above", apartBy(5).two(0, 1, 0, 2), 0);
        e.is("of one below", apartBy(-5).two(0, 1, 0, 2), 0);
        e.is("of two alike", apartBy(5, 5).two(0, 1, 0, 2), 0);
        e.is("of two above", apartBy(5, 7).two(0, 1, 0, 2), 2000);
        e.is("of two below", apartBy(-5, -7).two(0, 1, 0, 2), 2000);
        e.is("of two about 0", apartBy(-5, 7).two(0, 1, 0, 2), 12000);
        e.is("the least first", apartBy(-5, 0, 7).two(0, 1, 0, 2), 12000);
        e.is("the greatest first", apartBy(7, 0, -5).two(0, 1, 0, 2), 12000);
        e.is("both in the middle", apartBy(0, 7, -5, 1).two(0, 1, 0, 2), 12000);
        Calls far = new Calls().observers(2).stars(1, 99).nights(2);
        for (int i = 0; i < 2; i++) {
            far.record(i, 0, 0, i, 0, 9999, -1);
            far.record(i, 0, 4, 1 - i, 0, 0, -1);
        }
        e.is("as wide as may be", far.two(0, 1, 0, 2), 20790000);
    }

    private static void width(Edge e) {
        e.term("III", "WIDTH: SPAN, and 1000 by how many, upwards.");
        e.is("of none", Calls.sky(2, 1, 1).two(0, 1, 0, 3), -1000000000);
        int[] upwards = {1000, 500, 334, 250, 200, 167, 143, 125, 112, 100};
        for (int n = 1; n <= 10; n++) {
            e.is("of " + n + " alike", apartBy(new int[n]).two(0, 1, 0, 3), upwards[n - 1]);
        }
        e.is("of two with a span", apartBy(1, 3).two(0, 1, 0, 3), 2500);
        e.is("of three with a span", apartBy(3, 0, -3).two(0, 1, 0, 3), 6334);
        Calls most = Calls.sky(2, 3, 67);
        for (int i = 0; i < 200; i++) {
            most.meet(i / 3, i % 3, 0, 9, 1, 9);
            if (i == 198) {
                e.is("of 199", most.two(0, 1, 0, 3), 6);
            }
        }
        e.is("of as many as there may be", most.two(0, 1, 0, 3), 5);
    }

    /** Each of so many has met the next, all links 1000 wide. */
    private static Calls row(int observers) {
        Calls x = Calls.sky(observers, 1, Math.max(1, observers - 1));
        for (int i = 0; i + 1 < observers; i++) {
            x.meet(i, 0, i, 100, i + 1, 101);
        }
        return x;
    }

    private static void ropes(Edge e) {
        e.term("III", "A ROPE from a to b: OBSERVERS, none twice, each of whom has MEETINGS with the next:");
        Calls x = row(16);
        for (int b = 0; b < 16; b++) {
            e.is("links from 0 to " + b, x.rope(0, b, 0, 0), b);
            e.is("links from 15 to " + b, x.rope(15, b, 0, 0), 15 - b);
        }
        for (int k = 0; k < 16; k++) {
            e.is("observer " + k + " of the longest", x.knot(0, 15, 0, k), k);
            e.is("observer " + k + " of the longest from the other end", x.knot(15, 0, 0, k), 15 - k);
        }
        e.is("width of the longest", x.rope(0, 15, 0, 2), 15000);
        e.is("lean of the longest", x.rope(0, 15, 0, 1), -15000);
        x.clock(1);
        x.strike(15);
        e.is("one link struck", x.rope(0, 15, 1, 0), -2);
        e.is("to the end before it", x.rope(0, 7, 1, 0), 7);
        e.is("from behind it", x.rope(8, 15, 1, 0), 7);
        e.is("before it was struck", x.rope(0, 15, 0, 0), 15);
        e.is("without meetings", Calls.sky(2, 1, 1).rope(0, 1, 0, 0), -2);
        Calls feigned = Calls.sky(2, 1, 1);
        feigned.feigns(0, 0, 0, 1, 1);
        feigned.feigns(1, 0, 0, 1, 1);
        e.is("by feigned ones", feigned.rope(0, 1, 0, 0), -2);
    }

    /** 0 has met 1, and 1 has met 2, both 1000 wide; 0 has met 2 twice: by 0 and by the mean of the tenths told. */
    private static Calls straight(int... tenths) {
        Calls x = Calls.sky(3, 1, 4);
        x.meet(0, 0, 0, 100, 1, 110).meet(1, 0, 1, 100, 2, 110).meet(2, 0, 0, 100, 2, 100);
        x.sees(2, 3, 0, 100);
        for (int tenth : tenths) {
            x.sees(0, 3, 0, 100 + tenth);
        }
        return x;
    }

    private static void leastWidth(Edge e) {
        e.term("III", "that with the least WIDTH of all its links together;");
        // 1333 + 500 is less than 1000 + 1000, 1666 + 500 is more
        Calls less = straight(1, 1, 2);
        e.is("the straight one is narrower: its width", less.two(0, 2, 0, 3), 1833);
        e.is("the straight one is narrower", less.rope(0, 2, 0, 0), 1);
        e.is("the straight one's width", less.rope(0, 2, 0, 2), 1833);
        Calls more = straight(1, 2, 2);
        e.is("the straight one is wider: its width", more.two(0, 2, 0, 3), 2166);
        e.is("the straight one is wider", more.rope(0, 2, 0, 0), 2);
        e.is("the width of two links", more.rope(0, 2, 0, 2), 2000);
        e.is("the way back is wider, too", more.rope(2, 0, 0, 0), 2);
    }

    private static void fewestLinks(Edge e) {
        e.term("III", "of several that with the fewest links;");
        Calls same = straight(1, 2);
        e.is("as wide: its width", same.two(0, 2, 0, 3), 2000);
        e.is("as wide: links", same.rope(0, 2, 0, 0), 1);
        e.is("as wide: links of the way back", same.rope(2, 0, 0, 0), 1);
        e.is("as wide: width", same.rope(0, 2, 0, 2), 2000);
        e.is("as wide: lean", same.rope(0, 2, 0, 1), 750);
        // two links of 1500 against three of 1000: the first by observers would be the longer one
        Calls longer = Calls.sky(5, 2, 8);
        longer.meet(0, 0, 0, 100, 1, 101).meet(1, 0, 1, 100, 2, 101).meet(2, 0, 2, 100, 4, 101);
        longer.meet(3, 0, 0, 100, 3, 100).meet(4, 0, 0, 101, 3, 100);
        longer.meet(5, 0, 3, 100, 4, 100).meet(6, 0, 3, 101, 4, 100);
        e.is("two as wide as three: links", longer.rope(0, 4, 0, 0), 2);
        e.is("two as wide as three: width", longer.rope(0, 4, 0, 2), 3000);
        e.is("two as wide as three: through", longer.knot(0, 4, 0, 1), 3);
    }

    private static void firstByObservers(Edge e) {
        e.term("III", "of several the first by the OBSERVERS in its order.");
        Calls two = Calls.sky(4, 1, 4);
        two.meet(0, 0, 0, 100, 2, 101).meet(1, 0, 2, 100, 3, 102).meet(2, 0, 0, 100, 1, 104).meet(3, 0, 1, 100, 3, 108);
        e.is("through 1, not through 2", two.knot(0, 3, 0, 1), 1);
        e.is("its lean", two.rope(0, 3, 0, 1), -12000);
        e.is("the way back, through 1", two.knot(3, 0, 0, 1), 1);
        e.is("the way back's lean", two.rope(3, 0, 0, 1), 12000);
        // 0, 1, 4, 5 and 0, 2, 3, 5: the way back goes 5, 3, 2, 0
        Calls crossed = Calls.sky(6, 1, 6);
        crossed.meet(0, 0, 0, 100, 1, 101).meet(1, 0, 1, 100, 4, 101).meet(2, 0, 4, 100, 5, 101);
        crossed.meet(3, 0, 0, 100, 2, 100).meet(4, 0, 2, 100, 3, 100).meet(5, 0, 3, 100, 5, 100);
        e.is("the one way's second", crossed.knot(0, 5, 0, 1), 1);
        e.is("the one way's third", crossed.knot(0, 5, 0, 2), 4);
        e.is("the other way's second", crossed.knot(5, 0, 0, 1), 3);
        e.is("the other way's third", crossed.knot(5, 0, 0, 2), 2);
        e.is("the one way's lean", crossed.rope(0, 5, 0, 1), -3000);
        e.is("the other way's lean", crossed.rope(5, 0, 0, 1), 0);
        // 0, 1 and then 2 or 3, then 4
        Calls late = Calls.sky(5, 1, 5);
        late.meet(0, 0, 0, 100, 1, 100).meet(1, 0, 1, 100, 3, 100).meet(2, 0, 3, 100, 4, 100);
        late.meet(3, 0, 1, 100, 2, 107).meet(4, 0, 2, 100, 4, 100);
        e.is("they part later: through 2", late.knot(0, 4, 0, 2), 2);
        e.is("they part later: lean", late.rope(0, 4, 0, 1), -7000);
    }

    private static void lean(Edge e) {
        e.term("III", "Its LEAN: APART of each with the next, together.");
        Calls x = Calls.sky(3, 1, 2);
        for (int i = 0; i < 2; i++) {
            x.sees(i, i, 0, 0);
            x.sees(i + 1, i, 0, 0);
            x.sees(i + 1, i, 0, 0);
            x.sees(i + 1, i, 0, 1);
        }
        // each link is a third of a tenth, downwards
        e.is("twice a third below", x.rope(0, 2, 0, 1), -668);
        e.is("twice a third above", x.rope(2, 0, 0, 1), 666);
        e.is("one link", x.rope(0, 1, 0, 1), -334);
        Calls far = new Calls().observers(16).stars(1, 99).nights(15);
        for (int i = 0; i < 15; i++) {
            far.record(i, 0, 0, i, 0, 9999, -1);
            far.record(i, 0, 4, i + 1, 0, 0, -1);
        }
        e.is("as far as may be", far.rope(0, 15, 0, 1), 155925000);
        e.is("as far back as may be", far.rope(15, 0, 0, 1), -155925000);
    }

    private static void toHimself(Edge e) {
        e.term("III", "(From one to himself: no links, 0.)");
        Calls x = Calls.sky(2, 1, 1);
        for (int i = 0; i < 2; i++) {
            for (int what = 0; what < 3; what++) {
                e.is("of " + i + ", what " + what, x.rope(i, i, 0, what), 0);
            }
        }
        x.meet(0, 0, 0, 100, 1, 90);
        for (int what = 0; what < 3; what++) {
            e.is("of one who has met another, what " + what, x.rope(0, 0, 0, what), 0);
        }
        e.is("its only observer", x.knot(1, 1, 0, 0), 1);
        e.is("none behind him", x.knot(1, 1, 0, 1), -1);
    }
}
