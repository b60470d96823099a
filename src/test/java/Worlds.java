/** Objects in states at which the document's boundaries lie. */
final class Worlds {
    private Worlds() {
    }

    static Calls empty() {
        return new Calls();
    }

    /** One observer, star and night, all of them as small as they may be. */
    static Calls oneOfEach() {
        return Calls.sky(1, 1, 1);
    }

    /** Something of everything: meetings, feigned ones, struck ones, laws, journeys, marks 1 and 3, a tape. */
    static Calls rich() {
        return enriched(new Calls());
    }

    /** The same on an object that has nothing yet. */
    static Calls enriched(Calls x) {
        x.observers(4).stars(2, 10).nights(2);
        x.night(1, 0);
        x.law("lean 1000 * thread if bright = 0; lean 7");
        x.law("lean 0 - 2500");
        x.leans(0, 0);
        x.meet(0, 0, 0, 100, 1, 103).meet(1, 1, 1, 50, 2, 51).meet(0, 1, 0, 70, 1, 70);
        x.mark(1);
        x.clock(3);
        x.night(0, 2);
        x.meet(2, 0, 0, 200, 2, 190);
        x.feigns(0, 0, 0, 108, 100);
        x.feigns(0, 1, 1, 95, 99);
        x.record(0, 0, 0, 0, 0, 85, -1);
        x.record(0, 0, 4, 0, 0, 125, -1);
        x.journey(2, 3, 4);
        x.journey(0, 3, 6);
        x.strike(2);
        x.clock(60);
        x.feigns(0, 3, 0, 55, 50);
        x.strike(4);
        x.leans(1, 1);
        x.mark(3);
        x.clock(61);
        x.meet(3, 1, 0, 40, 1, 41);
        x.strike(3);
        x.fed("lean 3000 if way = 0");
        return x;
    }

    static Calls withObservers(int n) {
        return new Calls().observers(n);
    }

    static Calls withStars(int n) {
        return new Calls().stars(n, 10);
    }

    static Calls withNights(int n) {
        return new Calls().nights(n);
    }

    /** So many records of observers 0 and 1 in turn, each with another tenth. */
    static Calls withRecords(int n) {
        Calls x = Calls.sky(2, 1, 1);
        for (int i = 0; i < n; i++) {
            x.sees(i % 2, 0, 0, 10 * i);
        }
        return x;
    }

    static Calls withJourneys(int n) {
        Calls x = new Calls().observers(3);
        for (int i = 0; i < n; i++) {
            x.journey(i % 3, (i + 1) % 3, 1 + i);
        }
        return x;
    }

    /** So many laws, each of which gives its number, and a record that they may be asked of. */
    static Calls withLaws(int n) {
        Calls x = Worlds.oneOfEach();
        x.feigns(0, 0, 0, 1, 0);
        for (int i = 0; i < n; i++) {
            x.law("lean " + i);
        }
        return x;
    }

    /** A tape of so many bytes whose text is a law: lean, a number, and blanks behind. */
    static Calls withTape(int bytes) {
        Calls x = Worlds.oneOfEach();
        x.sees(0, 0, 0, 5);
        return x.fed(("lean 4321" + " ".repeat(400)).substring(0, bytes));
    }
}
