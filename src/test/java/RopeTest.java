/** Promises 13 to 16, 22, 23 and 28: two, rope, knot, far, moved, longitude, said. */
public final class RopeTest {
    private static final Due DUE = new Due();

    public static void main(String[] args) {
        two();
        twoDownwards();
        rope();
        ropesOfOneWidth();
        knotAndFar();
        moved();
        longitude();
        said();
        DUE.close("RopeTest");
    }

    private static EachLater sky(int observers, int stars, int nights) {
        EachLater x = new EachLater();
        for (int i = 0; i < observers; i++) {
            x.observer(0);
        }
        for (int i = 0; i < stars; i++) {
            x.star(i % 10, 10, 0);
        }
        for (int i = 0; i < nights; i++) {
            x.night(0, 0);
        }
        return x;
    }

    private static void meet(EachLater x, int night, int star, int a, int tenthA, int b, int tenthB) {
        x.record(night, star, 2, a, 0, tenthA, -1);
        x.record(night, star, 2, b, 0, tenthB, -1);
    }

    private static void two() {
        EachLater x = sky(3, 2, 2);
        DUE.is("two: none", x.two(0, 1, 0, 0), 0);
        for (int what = 1; what <= 3; what++) {
            DUE.is("two: none, what " + what, x.two(0, 1, 0, what), -1000000000);
        }
        meet(x, 0, 0, 0, 100, 1, 90);
        meet(x, 0, 1, 0, 100, 1, 97);
        meet(x, 1, 0, 0, 100, 1, 101);
        x.record(0, 0, 2, 0, 3, 500, 400);
        x.record(0, 0, 2, 1, 3, 700, 400);
        x.record(1, 1, 2, 0, 1, 500, -1);
        x.record(1, 1, 2, 1, 2, 700, -1);
        DUE.is("two: how many", x.two(0, 1, 0, 0), 3);
        DUE.is("two: apart", x.two(0, 1, 0, 1), 4000);
        DUE.is("two: span", x.two(0, 1, 0, 2), 11000);
        DUE.is("two: width", x.two(0, 1, 0, 3), 11334);
        x.clock(2);
        x.strike(0);
        DUE.is("two: struck", x.two(0, 1, 2, 0), 2);
        DUE.is("two: as known before", x.two(0, 1, 1, 0), 3);
        int[][] wrong = {{0, 0, 0, 0}, {3, 0, 0, 0}, {0, 3, 0, 0}, {-1, 0, 0, 0}, {0, -1, 0, 0}, {0, 1, -1, 0},
            {0, 1, 10000, 0}, {0, 1, 0, 4}, {0, 1, 0, -1}};
        for (int[] w : wrong) {
            DUE.is("two: wrong", x.two(w[0], w[1], w[2], w[3]), -2000000000);
        }
    }

    private static void twoDownwards() {
        EachLater x = sky(2, 1, 2);
        // b's mean is a third above a's: 333 thousandths and a third, downwards both ways round
        x.record(0, 0, 2, 0, 0, 100, -1);
        x.record(0, 0, 2, 1, 0, 100, -1);
        x.record(0, 0, 2, 1, 0, 100, -1);
        x.record(0, 0, 2, 1, 0, 101, -1);
        DUE.is("two: a third below", x.two(0, 1, 0, 1), -334);
        DUE.is("two: a third above", x.two(1, 0, 0, 1), 333);
        meet(x, 1, 0, 0, 100, 1, 101);
        DUE.is("two: span one way", x.two(0, 1, 0, 2), 666);
        DUE.is("two: span the other way", x.two(1, 0, 0, 2), 667);
        DUE.is("two: width the other way", x.two(1, 0, 0, 3), 1167);
        DUE.is("two: apart, downwards", x.two(1, 0, 0, 1), 666);
        DUE.is("two: apart, downwards, other way", x.two(0, 1, 0, 1), -667);
        EachLater y = sky(2, 2, 80);
        meet(y, 79, 0, 0, 100, 1, 100);
        meet(y, 79, 1, 0, 100, 1, 100);
        meet(y, 78, 0, 0, 100, 1, 101);
        DUE.is("two: on the last night", y.two(0, 1, 0, 0), 3);
        DUE.is("two: together by how many, downwards", y.two(0, 1, 0, 1), -334);
        DUE.is("two: the same the other way", y.two(1, 0, 0, 1), 333);
    }

    private static void rope() {
        EachLater x = sky(5, 1, 6);
        meet(x, 0, 0, 0, 100, 1, 110);
        meet(x, 1, 0, 0, 100, 1, 112);
        meet(x, 2, 0, 1, 100, 2, 105);
        meet(x, 3, 0, 2, 100, 3, 101);
        DUE.is("rope: links", x.rope(0, 3, 0, 0), 3);
        DUE.is("rope: lean", x.rope(0, 3, 0, 1), -11000 - 5000 - 1000);
        DUE.is("rope: width", x.rope(0, 3, 0, 2), 2500 + 1000 + 1000);
        DUE.is("rope: back, lean", x.rope(3, 0, 0, 1), 17000);
        DUE.is("rope: to himself", x.rope(4, 4, 0, 0), 0);
        DUE.is("rope: to himself, lean", x.rope(4, 4, 0, 1), 0);
        DUE.is("rope: to himself, width", x.rope(4, 4, 0, 2), 0);
        DUE.is("rope: none", x.rope(0, 4, 0, 0), -2);
        DUE.is("rope: none, lean", x.rope(0, 4, 0, 1), -1000000000);
        DUE.is("rope: none, width", x.rope(0, 4, 0, 2), -1000000000);
        meet(x, 4, 0, 0, 100, 2, 100);
        DUE.is("rope: narrower", x.rope(0, 1, 0, 0), 2);
        DUE.is("rope: narrower, width", x.rope(0, 1, 0, 2), 2000);
        DUE.is("rope: narrower, lean", x.rope(0, 1, 0, 1), 0 + 5000);
        x.clock(1);
        x.strike(8);
        DUE.is("rope: struck", x.rope(0, 1, 1, 0), 1);
        DUE.is("rope: as known before", x.rope(0, 1, 0, 0), 2);
        int[][] wrong = {{5, 0, 0, 0}, {0, 5, 0, 0}, {-1, 0, 0, 0}, {0, -1, 0, 0}, {0, 1, -1, 0}, {0, 1, 10000, 0},
            {0, 1, 0, 3}, {0, 1, 0, -1}};
        for (int[] w : wrong) {
            DUE.is("rope: wrong", x.rope(w[0], w[1], w[2], w[3]), -2000000000);
        }
    }

    private static void ropesOfOneWidth() {
        EachLater x = sky(6, 1, 10);
        // 0 to 5 by 1 and 4, by 2 and 3, each link 1000 wide; straight with width 3000
        meet(x, 0, 0, 0, 100, 2, 101);
        meet(x, 1, 0, 2, 100, 3, 102);
        meet(x, 2, 0, 3, 100, 5, 103);
        meet(x, 3, 0, 0, 100, 1, 104);
        meet(x, 4, 0, 1, 100, 4, 105);
        meet(x, 5, 0, 4, 100, 5, 106);
        DUE.is("rope: the first by its observers", x.rope(0, 5, 0, 1), -15000);
        DUE.is("knot: the first by its observers", x.knot(0, 5, 0, 1), 1);
        DUE.is("knot: from the other end", x.knot(5, 0, 0, 1), 3);
        meet(x, 6, 0, 0, 100, 5, 100);
        meet(x, 7, 0, 0, 100, 5, 102);
        // two differences, 0 and -2000: 2000 + 500 is narrower than 3000
        DUE.is("rope: straight is narrower", x.rope(0, 5, 0, 0), 1);
        x.record(7, 0, 2, 5, 0, 103, -1);
        // differences 0 and -2500: 3000 wide, as the others, with fewer links
        DUE.is("rope: width of the straight one", x.two(0, 5, 0, 3), 3000);
        DUE.is("rope: of one width the fewest links", x.rope(0, 5, 0, 0), 1);
        DUE.is("rope: its lean", x.rope(0, 5, 0, 1), -1250);
        DUE.is("knot: its end", x.knot(0, 5, 0, 1), 5);
    }

    private static void knotAndFar() {
        EachLater x = sky(16, 1, 16);
        for (int i = 0; i < 14; i++) {
            meet(x, i, 0, i, 100, i + 1, 101);
        }
        for (int k = 0; k <= 14; k++) {
            DUE.is("knot " + k, x.knot(0, 14, 0, k), k);
            DUE.is("knot back " + k, x.knot(14, 0, 0, k), 14 - k);
        }
        DUE.is("knot: behind the end", x.knot(0, 14, 0, 15), -1);
        DUE.is("knot: before a", x.knot(0, 14, 0, -1), -1);
        DUE.is("knot: far off", x.knot(0, 14, 0, Integer.MAX_VALUE), -1);
        DUE.is("knot: himself", x.knot(15, 15, 0, 0), 15);
        DUE.is("knot: himself alone", x.knot(15, 15, 0, 1), -1);
        DUE.is("knot: no rope", x.knot(0, 15, 0, 0), -1);
        DUE.is("knot: no observer", x.knot(0, 16, 0, 0), -1);
        DUE.is("knot: observer below 0", x.knot(-1, 0, 0, 0), -1);
        DUE.is("knot: known below 0", x.knot(0, 1, -1, 0), -1);
        DUE.is("knot: known too late", x.knot(0, 1, 10000, 0), -1);
        DUE.is("far: one", x.far(0, 0), 1 << 15);
        DUE.is("far: all", x.far(15, 0), (1 << 15) - 1);
        x.clock(1);
        x.strike(7 * 2);
        DUE.is("far: cut", x.far(0, 1), 0xff00);
        DUE.is("far: before", x.far(0, 0), 1 << 15);
        DUE.is("far: no observer", x.far(16, 0), -1);
        DUE.is("far: observer below 0", x.far(-1, 0), -1);
        DUE.is("far: known below 0", x.far(0, -1), -1);
        DUE.is("far: known too late", x.far(0, 10000), -1);
    }

    private static void moved() {
        EachLater x = sky(4, 2, 4);
        meet(x, 0, 0, 0, 100, 1, 101);
        x.record(1, 1, 2, 0, 1, 50, -1);
        x.record(1, 1, 3, 0, 1, 63, -1);
        x.record(1, 1, 3, 0, 1, 63, -1);
        DUE.is("moved: a mean, downwards", x.moved(0, 1, 1, 1, 0, 0, 0), 52000);
        DUE.is("moved: to another", x.moved(0, 1, 1, 1, 1, 0, 0), 53000);
        DUE.is("moved: not past its width", x.moved(0, 1, 1, 1, 1, 0, 1), 0);
        meet(x, 2, 0, 1, 100, 2, 102);
        DUE.is("moved: by two links", x.moved(0, 1, 1, 1, 2, 0, 0), 55000);
        DUE.is("moved: past", x.moved(0, 1, 1, 1, 2, 0, 1), 1);
        DUE.is("moved: past, below", x.moved(2, 2, 0, 0, 0, 0, 1), 1);
        DUE.is("moved: nothing seen", x.moved(1, 1, 1, 1, 0, 0, 0), -1000000000);
        DUE.is("moved: nothing seen, past", x.moved(1, 1, 1, 1, 0, 0, 1), -1000000000);
        DUE.is("moved: no rope", x.moved(0, 1, 1, 1, 3, 0, 0), -1000000000);
        DUE.is("moved: no rope, past", x.moved(0, 1, 1, 1, 3, 0, 1), -1000000000);
        x.record(3, 0, 2, 0, 3, 71, 70);
        DUE.is("moved: a feigned one", x.moved(0, 3, 0, 3, 1, 0, 0), 72000);
        int[][] wrong = {{4, 1, 1, 1, 0, 0, 0}, {-1, 1, 1, 1, 0, 0, 0}, {0, 4, 1, 1, 0, 0, 0}, {0, -1, 1, 1, 0, 0, 0},
            {0, 1, 2, 1, 0, 0, 0}, {0, 1, -1, 1, 0, 0, 0}, {0, 1, 1, 5, 0, 0, 0}, {0, 1, 1, -1, 0, 0, 0},
            {0, 1, 1, 1, 4, 0, 0}, {0, 1, 1, 1, -1, 0, 0}, {0, 1, 1, 1, 0, -1, 0}, {0, 1, 1, 1, 0, 10000, 0},
            {0, 1, 1, 1, 0, 0, 2}, {0, 1, 1, 1, 0, 0, -1}};
        for (int[] w : wrong) {
            DUE.is("moved: wrong", x.moved(w[0], w[1], w[2], w[3], w[4], w[5], w[6]), -2000000000);
        }
    }

    private static void longitude() {
        EachLater x = sky(3, 2, 1);
        x.clock(1);
        x.night(0, 1);
        x.night(1, 1);
        x.night(1, 0);
        x.record(1, 0, 2, 0, 0, 100, -1);
        x.record(2, 0, 2, 1, 0, 200, -1);
        DUE.is("longitude: no rope", x.longitude(0, 1, 1, 1), 0);
        DUE.is("longitude: no rope, none", x.longitude(0, 1, 1, 0), -1000000000);
        meet(x, 0, 1, 0, 100, 1, 103);
        DUE.is("longitude: one", x.longitude(0, 1, 1, 1), 1);
        DUE.is("longitude: by it", x.longitude(0, 1, 1, 0), 97000);
        DUE.is("longitude: the other way", x.longitude(1, 0, 1, 0), -97000);
        x.record(3, 0, 2, 1, 0, 900, -1);
        DUE.is("longitude: another week counts not", x.longitude(0, 1, 1, 1), 1);
        x.record(2, 1, 2, 1, 0, 900, -1);
        DUE.is("longitude: another star counts not", x.longitude(0, 1, 1, 1), 1);
        x.record(2, 0, 2, 1, 1, 900, -1);
        DUE.is("longitude: another way counts not", x.longitude(0, 1, 1, 1), 1);
        x.record(1, 0, 2, 0, 3, 100, 100);
        x.record(2, 0, 2, 1, 3, 900, 100);
        DUE.is("longitude: feigned ones count not", x.longitude(0, 1, 1, 1), 1);
        x.record(2, 0, 2, 0, 0, 200, -1);
        // 0 and 1 meet on that night, too: apart -3000 and 0, so -1500; from 1 to 0 the lean is 1500
        DUE.is("longitude: himself", x.longitude(0, 1, 1, 1), 2);
        DUE.is("longitude: with himself", x.longitude(0, 1, 1, 0), (100000 + 98500) / 2);
        DUE.is("longitude: a house without nights", x.longitude(0, 2, 1, 1), 0);
        EachLater y = sky(1, 1, 1);
        y.night(1, 0);
        y.record(0, 0, 4, 0, 0, 0, -1);
        y.record(0, 0, 4, 0, 0, 0, -1);
        y.record(0, 0, 4, 0, 0, 1, -1);
        y.record(1, 0, 2, 0, 0, 0, -1);
        // -20, -20, -19: their mean is -19666 thousandths and two thirds, -19667 downwards
        DUE.is("longitude: each mean downwards", y.longitude(0, 1, 0, 0), 19667);
        DUE.is("longitude: each mean downwards, other way", y.longitude(1, 0, 0, 0), -19667);
        DUE.is("longitude: as known before", x.longitude(0, 1, 0, 1), 0);
        int[][] wrong = {{0, 0, 1, 0}, {4, 0, 1, 0}, {0, 4, 1, 0}, {-1, 0, 1, 0}, {0, -1, 1, 0}, {0, 1, -1, 0},
            {0, 1, 10000, 0}, {0, 1, 1, 2}, {0, 1, 1, -1}};
        for (int[] w : wrong) {
            DUE.is("longitude: wrong", x.longitude(w[0], w[1], w[2], w[3]), -2000000000);
        }
    }

    private static void said() {
        EachLater x = sky(3, 2, 70);
        DUE.is("said: nothing, ways", x.said(0, 1, 0, 0), 1);
        DUE.is("said: nothing, all", x.said(0, 1, 0, 1), 1);
        meet(x, 0, 0, 0, 100, 1, 99);
        meet(x, 1, 0, 0, 100, 1, 99);
        meet(x, 2, 0, 0, 100, 1, 101);
        meet(x, 3, 0, 0, 100, 1, 100);
        DUE.is("said: two of three", x.said(0, 1, 0, 0), 4);
        DUE.is("said: of three", x.said(0, 1, 0, 1), 8);
        DUE.is("said: one of three", x.said(1, 0, 0, 0), 7);
        for (int i = 4; i < 61; i++) {
            meet(x, i, 0, 0, 100, 1, i % 2 == 0 ? 99 : 101);
        }
        DUE.is("said: of sixty", x.said(0, 1, 0, 1), 1L << 60);
        // 31 above, 29 below
        DUE.is("said: half but one", x.said(0, 1, 0, 0), 517328461520992776L);
        DUE.is("said: the other half", x.said(1, 0, 0, 0), 750042638148623320L);
        meet(x, 61, 0, 0, 100, 1, 100);
        DUE.is("said: one that is 0 more", x.said(0, 1, 0, 1), 1L << 60);
        meet(x, 62, 0, 0, 100, 1, 99);
        DUE.is("said: of 61, ways", x.said(0, 1, 0, 0), -2);
        DUE.is("said: of 61, all", x.said(0, 1, 0, 1), -2);
        EachLater y = sky(2, 1, 1);
        for (int i = 0; i < 37; i++) {
            y.record(0, 0, 2, 0, 0, i < 26 ? 1 : 0, -1);
        }
        for (int i = 0; i < 27; i++) {
            y.record(0, 0, 2, 1, 0, i < 19 ? 1 : 0, -1);
        }
        // 19 / 27 - 26 / 37 is 1 / 999: one thousandth above, two below
        DUE.is("said: one thousandth", y.two(1, 0, 0, 1), 1);
        DUE.is("said: one thousandth the other way", y.two(0, 1, 0, 1), -2);
        DUE.is("said: above 0", y.said(1, 0, 0, 0), 1);
        DUE.is("said: below 0", y.said(0, 1, 0, 0), 2);
        int[][] wrong = {{0, 0, 0, 0}, {3, 0, 0, 0}, {0, 3, 0, 0}, {-1, 0, 0, 0}, {0, -1, 0, 0}, {0, 1, -1, 0},
            {0, 1, 10000, 0}, {0, 1, 0, 2}, {0, 1, 0, -1}};
        for (int[] w : wrong) {
            DUE.is("said: wrong", x.said(w[0], w[1], w[2], w[3]), -1);
        }
    }
}
