/** An object with its calls counted: the document promises nothing behind the 512th, so no test may lean on one. */
final class Calls {
    static final int MOST = 512;

    private final EachLater x = new EachLater();
    private int made = 0;

    private EachLater one() {
        made++;
        if (made > MOST) {
            throw new IllegalStateException("a test makes more than 512 calls on one object");
        }
        return x;
    }

    int made() {
        return made;
    }

    boolean clock(int week) {
        return one().clock(week);
    }

    int observer(int born) {
        return one().observer(born);
    }

    int star(int bright, int pace, int side) {
        return one().star(bright, pace, side);
    }

    int night(int house, int week) {
        return one().night(house, week);
    }

    int record(int night, int star, int thread, int observer, int way, int tenth, int truth) {
        return one().record(night, star, thread, observer, way, tenth, truth);
    }

    boolean strike(int record) {
        return one().strike(record);
    }

    int seen(int observer, int night, int star, int way, int known, int what) {
        return one().seen(observer, night, star, way, known, what);
    }

    int feed(int a, int b, int c, int d, int e) {
        return one().feed(a, b, c, d, e);
    }

    int end(int n) {
        return one().end(n);
    }

    int law() {
        return one().law();
    }

    int gives(int law, int record) {
        return one().gives(law, record);
    }

    int two(int a, int b, int known, int what) {
        return one().two(a, b, known, what);
    }

    int rope(int a, int b, int known, int what) {
        return one().rope(a, b, known, what);
    }

    int knot(int a, int b, int known, int k) {
        return one().knot(a, b, known, k);
    }

    int far(int a, int known) {
        return one().far(a, known);
    }

    int own(int observer, int year, int known, int what) {
        return one().own(observer, year, known, what);
    }

    long left(int observer, int law, int known) {
        return one().left(observer, law, known);
    }

    int best(int observer, int known, int p, int what) {
        return one().best(observer, known, p, what);
    }

    long scatter(int way, int known) {
        return one().scatter(way, known);
    }

    int finest(int known) {
        return one().finest(known);
    }

    int moved(int observer, int night, int star, int way, int z, int known, int what) {
        return one().moved(observer, night, star, way, z, known, what);
    }

    int longitude(int g, int h, int known, int what) {
        return one().longitude(g, h, known, what);
    }

    int journey(int a, int b, int weeks) {
        return one().journey(a, b, weeks);
    }

    int tied(int set) {
        return one().tied(set);
    }

    int plan(int weeks, int what) {
        return one().plan(weeks, what);
    }

    int next() {
        return one().next();
    }

    long said(int a, int b, int known, int part) {
        return one().said(a, b, known, part);
    }

    boolean leans(int observer, int law) {
        return one().leans(observer, law);
    }

    int later(int a, int b, int seed, int slip, int n) {
        return one().later(a, b, seed, slip, n);
    }

    int mark(int k) {
        return one().mark(k);
    }

    int back(int k) {
        return one().back(k);
    }

    int count(int what) {
        return one().count(what);
    }

    // ---- runs of calls that many tests begin with

    /** Feeds a text, one of 400 bytes at most in all with what the tape has, and cuts off what comes behind it. */
    Calls fed(String text) {
        int[] numbers = new int[5];
        int before = count(7);
        for (int from = 0; from < text.length(); from += 20) {
            for (int i = 0; i < 20; i++) {
                int sign = from + i < text.length() ? text.charAt(from + i) & 255 : 0;
                numbers[i / 4] = numbers[i / 4] << 8 | sign;
            }
            feed(numbers[0], numbers[1], numbers[2], numbers[3], numbers[4]);
        }
        end(before + text.length());
        return this;
    }

    int law(String text) {
        return fed(text).law();
    }

    Calls observers(int n) {
        for (int i = 0; i < n; i++) {
            observer(0);
        }
        return this;
    }

    Calls stars(int n, int pace) {
        for (int i = 0; i < n; i++) {
            star(0, pace, 0);
        }
        return this;
    }

    /** Nights of house 0 in week 0. */
    Calls nights(int n) {
        for (int i = 0; i < n; i++) {
            night(0, 0);
        }
        return this;
    }

    static Calls sky(int observers, int stars, int nights) {
        return new Calls().observers(observers).stars(stars, 10).nights(nights);
    }

    /** By eye and ear at the middle thread, so that REDUCED is the tenth. */
    int sees(int observer, int night, int star, int tenth) {
        return record(night, star, 2, observer, 0, tenth, -1);
    }

    /** A feigned one at the middle thread. */
    int feigns(int observer, int night, int star, int tenth, int truth) {
        return record(night, star, 2, observer, 3, tenth, truth);
    }

    Calls meet(int night, int star, int a, int tenthA, int b, int tenthB) {
        sees(a, night, star, tenthA);
        sees(b, night, star, tenthB);
        return this;
    }
}
