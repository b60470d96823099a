/** Promises 24 to 27: journey, tied, plan, next. */
public final class JourneyTest {
    private static final Due DUE = new Due();

    public static void main(String[] args) {
        journey();
        tied();
        plan();
        next();
        DUE.close("JourneyTest");
    }

    private static EachLater observers(int n) {
        EachLater x = new EachLater();
        for (int i = 0; i < n; i++) {
            x.observer(0);
        }
        x.star(0, 10, 0);
        x.night(0, 0);
        return x;
    }

    private static void journey() {
        EachLater x = observers(3);
        DUE.is("journey: with himself", x.journey(1, 1, 1), -1);
        DUE.is("journey: no observer", x.journey(0, 3, 1), -1);
        DUE.is("journey: observer below 0", x.journey(-1, 0, 1), -1);
        DUE.is("journey: no week", x.journey(0, 1, 0), -1);
        DUE.is("journey: too long", x.journey(0, 1, 100), -1);
        DUE.is("journey: none made", x.count(6), 0);
        DUE.is("journey: shortest", x.journey(0, 1, 1), 0);
        DUE.is("journey: longest", x.journey(1, 0, 99), 1);
        for (int i = 2; i < 9; i++) {
            DUE.is("journey " + i, x.journey(2, 1, i), i);
        }
        DUE.is("journey: one too many", x.journey(0, 1, 1), -1);
        DUE.is("journey: how many", x.count(6), 9);
    }

    private static void tied() {
        EachLater x = observers(6);
        DUE.is("tied: nobody", x.tied(0), 0);
        DUE.is("tied: no journey", x.tied(1), -1);
        x.record(0, 0, 2, 0, 0, 100, -1);
        x.record(0, 0, 2, 1, 0, 100, -1);
        x.record(0, 0, 2, 4, 3, 100, 100);
        x.record(0, 0, 2, 5, 3, 100, 100);
        DUE.is("tied: by meetings, no feigned ones", x.tied(0), 1);
        x.journey(1, 2, 1);
        x.journey(3, 4, 1);
        x.journey(0, 2, 1);
        DUE.is("tied: one made", x.tied(1), 3);
        DUE.is("tied: two made", x.tied(3), 4);
        DUE.is("tied: no more by a third", x.tied(5), 3);
        DUE.is("tied: all", x.tied(7), 4);
        DUE.is("tied: not there", x.tied(8), -1);
        DUE.is("tied: below 0", x.tied(-1), -1);
        x.clock(1);
        x.strike(0);
        DUE.is("tied: by what is known now", x.tied(0), 0);
    }

    private static void plan() {
        EachLater x = observers(5);
        DUE.is("plan: nothing", x.plan(999, 0), 0);
        x.journey(0, 1, 5);
        x.journey(0, 1, 3);
        x.journey(0, 1, 3);
        x.journey(2, 3, 3);
        DUE.is("plan: the fewest weeks, the least number", x.plan(5, 0), 2);
        DUE.is("plan: its weeks", x.plan(5, 2), 3);
        DUE.is("plan: its pairs", x.plan(5, 1), 1);
        DUE.is("plan: two", x.plan(6, 0), 2 + 8);
        DUE.is("plan: two, weeks", x.plan(6, 2), 6);
        DUE.is("plan: much time", x.plan(999, 0), 2 + 8);
        DUE.is("plan: no time", x.plan(0, 0), 0);
        DUE.is("plan: no time, weeks", x.plan(0, 2), 0);
        DUE.is("plan: not quite", x.plan(2, 1), 0);
        DUE.is("plan: weeks below 0", x.plan(-1, 0), -1);
        DUE.is("plan: too many weeks", x.plan(1000, 0), -1);
        DUE.is("plan: another what", x.plan(5, 3), -1);
        DUE.is("plan: what below 0", x.plan(5, -1), -1);
        x.record(0, 0, 2, 0, 0, 100, -1);
        x.record(0, 0, 2, 1, 0, 100, -1);
        DUE.is("plan: they have met", x.plan(999, 0), 8);
        EachLater all = observers(4);
        all.journey(0, 1, 1);
        DUE.is("plan: the only one", all.plan(1, 0), 1);
        all.journey(1, 2, 2);
        all.journey(2, 3, 3);
        DUE.is("plan: all", all.plan(6, 0), 7);
        DUE.is("plan: all, tied", all.plan(6, 1), 6);
        DUE.is("plan: all, weeks", all.plan(6, 2), 6);
        DUE.is("plan: all but the last", all.plan(5, 0), 3);
        DUE.is("plan: with those who have met", x.plan(999, 1), 2);
    }

    private static void next() {
        EachLater x = observers(1);
        DUE.is("next: one alone", x.next(), -2);
        x.observer(0);
        DUE.is("next: the two", x.next(), 1);
        x.record(0, 0, 2, 0, 0, 100, -1);
        x.record(0, 0, 2, 1, 0, 100, -1);
        DUE.is("next: all are tied", x.next(), -2);
        x.observer(0);
        x.observer(0);
        DUE.is("next: two with one", x.next(), 2);
        x.journey(0, 2, 1);
        DUE.is("next: a journey is not made", x.next(), 2);
        x.record(0, 0, 2, 2, 1, 100, -1);
        x.record(0, 0, 2, 3, 1, 100, -1);
        DUE.is("next: two with two", x.next(), 2);
        x.observer(0);
        DUE.is("next: the greater ones", x.next(), 2);
        x.record(0, 0, 2, 1, 1, 100, -1);
        DUE.is("next: the last one", x.next(), 4);
        EachLater y = observers(16);
        y.record(0, 0, 2, 14, 0, 100, -1);
        y.record(0, 0, 2, 15, 0, 100, -1);
        DUE.is("next: a single one with the two", y.next(), 14);
        y.record(0, 0, 2, 12, 1, 100, -1);
        y.record(0, 0, 2, 13, 1, 100, -1);
        DUE.is("next: the twos", y.next(), 16 * 12 + 14);
    }
}
