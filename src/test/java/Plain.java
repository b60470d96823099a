import java.math.BigInteger;
import java.util.ArrayList;
import java.util.Arrays;
import java.util.HashMap;
import java.util.HashSet;
import java.util.List;
import java.util.Map;
import java.util.Set;
import java.util.TreeMap;

/**
 * The document once more, written from its words alone and as plainly as the Java library allows, without a thought
 * of speed or room: FuzzTest holds EachLater against it.
 */
final class Plain {
    static final int ANY = -1000000000;
    static final int THESE = -2000000000;

    record Star(int bright, int pace, int side) { }

    record Night(int house, int week) { }

    record Rec(int night, int star, int thread, int observer, int way, int tenth, int truth, int known, int struck) {
        Rec struckIn(int week) {
            return new Rec(night, star, thread, observer, way, tenth, truth, known, week);
        }
    }

    record Journey(int a, int b, int weeks) { }

    record Sight(int night, int star, int way) { }

    record Rope(long width, List<Integer> knots, long lean) { }

    /** What a mark keeps. */
    static final class State {
        int now;
        List<Integer> born = new ArrayList<>();
        List<Integer> laws = new ArrayList<>();
        List<Star> stars = new ArrayList<>();
        List<Night> nights = new ArrayList<>();
        List<Rec> recs = new ArrayList<>();
        List<Journey> journeys = new ArrayList<>();

        State copy() {
            State s = new State();
            s.now = now;
            s.born.addAll(born);
            s.laws.addAll(laws);
            s.stars.addAll(stars);
            s.nights.addAll(nights);
            s.recs.addAll(recs);
            s.journeys.addAll(journeys);
            return s;
        }
    }

    State s = new State();
    final State[] marks = new State[4];
    List<Integer> tape = new ArrayList<>();
    final List<PlainLaw> laws = new ArrayList<>();

    // ---- what there is

    static boolean in(long n, long least, long most) {
        return least <= n && n <= most;
    }

    static boolean week(int w) {
        return in(w, 0, 9999);
    }

    boolean obs(int o) {
        return in(o, 0, s.born.size() - 1);
    }

    boolean sight(int o, int n, int st, int w) {
        return obs(o) && in(n, 0, s.nights.size() - 1) && in(st, 0, s.stars.size() - 1) && in(w, 0, 4);
    }

    static BigInteger big(long n) {
        return BigInteger.valueOf(n);
    }

    static long floor(BigInteger n, BigInteger by) {
        if (by.signum() < 0) {
            return floor(n.negate(), by.negate());
        }
        BigInteger[] both = n.divideAndRemainder(by);
        return (both[1].signum() < 0 ? both[0].subtract(BigInteger.ONE) : both[0]).longValueExact();
    }

    static long floor(long n, long by) {
        return floor(big(n), big(by));
    }

    // ---- the book

    int clock(int w) {
        if (!week(w) || w < s.now) {
            return 0;
        }
        s.now = w;
        return 1;
    }

    int observer(int born) {
        if (s.born.size() == 16 || !in(born, -5000, 9999)) {
            return -1;
        }
        s.born.add(born);
        s.laws.add(-1);
        return s.born.size() - 1;
    }

    int star(int bright, int pace, int side) {
        if (s.stars.size() == 24 || !in(bright, 0, 9) || !in(pace, 1, 99) || !in(side, 0, 1)) {
            return -1;
        }
        s.stars.add(new Star(bright, pace, side));
        return s.stars.size() - 1;
    }

    int night(int house, int w) {
        if (s.nights.size() == 80 || !in(house, 0, 3) || !week(w) || w > s.now) {
            return -1;
        }
        s.nights.add(new Night(house, w));
        return s.nights.size() - 1;
    }

    int record(int n, int st, int th, int o, int w, int tenth, int truth) {
        if (s.recs.size() == 400 || !sight(o, n, st, w) || !in(th, 0, 4) || !in(tenth, 0, 9999)) {
            return -1;
        }
        if (w == 3 && !in(truth, 0, 9999) || w != 3 && truth != -1) {
            return -1;
        }
        s.recs.add(new Rec(n, st, th, o, w, tenth, truth, s.now, -1));
        return s.recs.size() - 1;
    }

    int strike(int r) {
        if (!in(r, 0, s.recs.size() - 1) || s.recs.get(r).struck() != -1) {
            return 0;
        }
        s.recs.set(r, s.recs.get(r).struckIn(s.now));
        return 1;
    }

    List<Rec> known(int w) {
        List<Rec> all = new ArrayList<>();
        for (Rec r : s.recs) {
            if (r.known() <= w && !(r.struck() != -1 && r.struck() <= w)) {
                all.add(r);
            }
        }
        return all;
    }

    int reduced(Rec r) {
        return r.tenth() - (r.thread() - 2) * s.stars.get(r.star()).pace();
    }

    List<Rec> seenRecs(int o, int n, int st, int w, int known) {
        List<Rec> all = new ArrayList<>();
        for (Rec r : known(known)) {
            if (r.observer() == o && r.night() == n && r.star() == st && r.way() == w) {
                all.add(r);
            }
        }
        return all;
    }

    int seen(int o, int n, int st, int w, int known, int what) {
        if (what != 0 && what != 1) {
            return ANY;
        }
        if (!sight(o, n, st, w) || !week(known)) {
            return what == 0 ? -1 : ANY;
        }
        List<Rec> all = seenRecs(o, n, st, w, known);
        return what == 0 ? all.size() : all.stream().mapToInt(this::reduced).sum();
    }

    // ---- laws

    int feed(int... numbers) {
        if (tape.size() + 20 > 400) {
            return -1;
        }
        for (int n : numbers) {
            for (byte b : java.nio.ByteBuffer.allocate(4).putInt(n).array()) {
                tape.add(b & 255);
            }
        }
        return tape.size();
    }

    int end(int n) {
        if (n < 0 || n > tape.size()) {
            return -1;
        }
        tape = new ArrayList<>(tape.subList(0, n));
        return n;
    }

    int law() {
        if (laws.size() == 10) {
            return -1;
        }
        PlainLaw l = new PlainLaw(tape);
        tape = new ArrayList<>();
        if (l.fault != 0) {
            return -2 - l.fault;
        }
        laws.add(l);
        return laws.size() - 1;
    }

    long given(PlainLaw l, Rec r) {
        Map<String, Long> words = new HashMap<>();
        Star st = s.stars.get(r.star());
        Night n = s.nights.get(r.night());
        words.put("bright", (long) st.bright());
        words.put("pace", (long) st.pace());
        words.put("side", (long) st.side());
        words.put("star", (long) r.star());
        words.put("thread", (long) r.thread());
        words.put("way", (long) r.way());
        words.put("week", (long) n.week());
        words.put("year", floor(n.week(), 52));
        words.put("house", (long) n.house());
        words.put("age", (long) ((n.week() - s.born.get(r.observer())) / 52));
        long sum = l.give(words);
        return sum > 999999 ? 999999 : sum < -999999 ? -999999 : sum;
    }

    int gives(int l, int r) {
        if (!in(l, 0, laws.size() - 1) || !in(r, 0, s.recs.size() - 1)) {
            return -1000000;
        }
        return (int) given(laws.get(l), s.recs.get(r));
    }

    // ---- meetings and ropes

    /** The differences of a and b, by a sum and a number of each one's reduced records. */
    List<Long> differences(int a, int b, List<Rec> recs, List<Long> reduced) {
        Map<Sight, long[]> sums = new TreeMap<>((p, q) -> p.toString().compareTo(q.toString()));
        for (int i = 0; i < recs.size(); i++) {
            Rec r = recs.get(i);
            if (r.way() == 3 || r.observer() != a && r.observer() != b) {
                continue;
            }
            long[] sum = sums.computeIfAbsent(new Sight(r.night(), r.star(), r.way()), k -> new long[4]);
            int at = r.observer() == a ? 0 : 2;
            sum[at]++;
            sum[at + 1] += reduced.get(i);
        }
        List<Long> all = new ArrayList<>();
        for (long[] n : sums.values()) {
            if (n[0] > 0 && n[2] > 0) {
                all.add(floor(big(1000).multiply(big(n[1] * n[2] - n[3] * n[0])), big(n[0] * n[2])));
            }
        }
        return all;
    }

    List<Long> differences(int a, int b, int known) {
        List<Rec> recs = known(known);
        return differences(a, b, recs, recs.stream().map(r -> (long) reduced(r)).toList());
    }

    static long sum(List<Long> all) {
        return all.stream().mapToLong(x -> x).sum();
    }

    static long span(List<Long> all) {
        return all.stream().mapToLong(x -> x).max().getAsLong() - all.stream().mapToLong(x -> x).min().getAsLong();
    }

    static long width(List<Long> all) {
        return span(all) + -floor(-1000, all.size());
    }

    int two(int a, int b, int known, int what) {
        if (!obs(a) || !obs(b) || a == b || !week(known) || !in(what, 0, 3)) {
            return THESE;
        }
        List<Long> all = differences(a, b, known);
        if (what == 0) {
            return all.size();
        }
        if (all.isEmpty()) {
            return ANY;
        }
        return (int) (what == 1 ? floor(sum(all), all.size()) : what == 2 ? span(all) : width(all));
    }

    static int before(List<Integer> p, List<Integer> q) {
        for (int i = 0; i < Math.min(p.size(), q.size()); i++) {
            if (!p.get(i).equals(q.get(i))) {
                return p.get(i) - q.get(i);
            }
        }
        return p.size() - q.size();
    }

    static boolean better(Rope p, Rope q) {
        if (q == null || p.width() != q.width()) {
            return q == null || p.width() < q.width();
        }
        if (p.knots().size() != q.knots().size()) {
            return p.knots().size() < q.knots().size();
        }
        return before(p.knots(), q.knots()) < 0;
    }

    /** The ropes from a to everyone: the best with just so many links to each, then the best of all these. */
    Rope[] ropes(int a, int known) {
        int n = s.born.size();
        List<List<Long>> met = new ArrayList<>();
        for (int i = 0; i < n * n; i++) {
            met.add(i / n == i % n ? List.of() : differences(i / n, i % n, known));
        }
        Rope[] best = new Rope[n];
        Rope[] now = new Rope[n];
        now[a] = new Rope(0, List.of(a), 0);
        for (int links = 0; links < n; links++) {
            Rope[] then = new Rope[n];
            for (int i = 0; i < n; i++) {
                if (now[i] != null && better(now[i], best[i])) {
                    best[i] = now[i];
                }
                for (int j = 0; j < n; j++) {
                    List<Long> link = met.get(i * n + j);
                    if (now[i] == null || link.isEmpty() || now[i].knots().contains(j)) {
                        continue;
                    }
                    List<Integer> knots = new ArrayList<>(now[i].knots());
                    knots.add(j);
                    Rope longer = new Rope(now[i].width() + width(link), knots,
                        now[i].lean() + floor(sum(link), link.size()));
                    if (better(longer, then[j])) {
                        then[j] = longer;
                    }
                }
            }
            now = then;
        }
        return best;
    }

    int rope(int a, int b, int known, int what) {
        if (!obs(a) || !obs(b) || !week(known) || !in(what, 0, 2)) {
            return THESE;
        }
        Rope r = ropes(a, known)[b];
        if (r == null) {
            return what == 0 ? -2 : ANY;
        }
        return (int) (what == 0 ? r.knots().size() - 1 : what == 1 ? r.lean() : r.width());
    }

    int knot(int a, int b, int known, int k) {
        if (!obs(a) || !obs(b) || !week(known)) {
            return -1;
        }
        Rope r = ropes(a, known)[b];
        return r == null || !in(k, 0, r.knots().size() - 1) ? -1 : r.knots().get(k);
    }

    int far(int a, int known) {
        if (!obs(a) || !week(known)) {
            return -1;
        }
        int bits = 0;
        Rope[] all = ropes(a, known);
        for (int i = 0; i < all.length; i++) {
            bits += all[i] == null ? 1 << i : 0;
        }
        return bits;
    }

    // ---- each one's own

    List<Rec> owns(int o, int year, int known) {
        List<Rec> all = new ArrayList<>();
        for (Rec r : known(known)) {
            if (r.way() == 3 && r.observer() == o && (year == -1 || s.nights.get(r.night()).week() / 52 == year)) {
                all.add(r);
            }
        }
        return all;
    }

    int own(int o, int year, int known, int what) {
        if (!obs(o) || !in(year, -1, 9999 / 52) || !week(known) || !in(what, 0, 2)) {
            return THESE;
        }
        List<Long> late = owns(o, year, known).stream().map(r -> (long) r.tenth() - r.truth()).toList();
        if (what == 0) {
            return late.size();
        }
        if (late.isEmpty()) {
            return ANY;
        }
        return (int) (what == 1 ? floor(1000 * sum(late), late.size()) : span(late));
    }

    long leftOf(int o, PlainLaw l, int known) {
        BigInteger all = BigInteger.ZERO;
        for (Rec r : owns(o, -1, known)) {
            BigInteger less = big(1000L * (r.tenth() - r.truth()) - given(l, r));
            all = all.add(less.multiply(less));
        }
        return all.longValueExact();
    }

    long left(int o, int l, int known) {
        if (!obs(o) || !in(l, 0, laws.size() - 1) || !week(known)) {
            return -1;
        }
        return leftOf(o, laws.get(l), known);
    }

    int best(int o, int known, int p, int what) {
        if (!obs(o) || !week(known) || !in(p, 0, 900) || !in(what, 0, 1)) {
            return -2;
        }
        List<Long> lefts = laws.stream().map(l -> leftOf(o, l, known)).toList();
        if (lefts.isEmpty()) {
            return what == 0 ? -1 : 0;
        }
        long least = lefts.stream().mapToLong(x -> x).min().getAsLong();
        if (what == 0) {
            return lefts.indexOf(least);
        }
        int bits = 0;
        for (int i = 0; i < lefts.size(); i++) {
            bits += lefts.get(i) <= least / 100 * (100 + p) ? 1 << i : 0;
        }
        return bits;
    }

    long scatter(int w, int known) {
        if (!in(w, 0, 4) || !week(known)) {
            return -1;
        }
        BigInteger all = BigInteger.ZERO;
        long free = 0;
        for (int n = 0; n < s.nights.size(); n++) {
            for (int st = 0; st < s.stars.size(); st++) {
                for (int o = 0; o < s.born.size(); o++) {
                    List<Rec> seen = seenRecs(o, n, st, w, known);
                    if (seen.stream().mapToInt(r -> r.thread).distinct().count() < 2) {
                        continue;
                    }
                    BigInteger many = big(seen.size());
                    BigInteger one = big(seen.stream().mapToLong(this::reduced).sum());
                    BigInteger squares = big(seen.stream().mapToLong(r -> (long) reduced(r) * reduced(r)).sum());
                    BigInteger spread = many.multiply(squares).subtract(one.multiply(one));
                    all = all.add(big(floor(spread.multiply(big(1000)), many)));
                    free += seen.size() - 1;
                }
            }
        }
        return free == 0 ? -2 : floor(all, big(free));
    }

    int finest(int known) {
        if (!week(known)) {
            return -1;
        }
        int best = -2;
        for (int w = 4; w >= 0; w--) {
            long here = scatter(w, known);
            if (here >= 0 && (best == -2 || here <= scatter(best, known))) {
                best = w;
            }
        }
        return best;
    }

    // ---- moved, longitude

    long mean(List<Rec> all) {
        return floor(1000L * all.stream().mapToLong(this::reduced).sum(), all.size());
    }

    int moved(int o, int n, int st, int w, int z, int known, int what) {
        if (!sight(o, n, st, w) || !obs(z) || !week(known) || !in(what, 0, 1)) {
            return THESE;
        }
        List<Rec> seen = seenRecs(o, n, st, w, known);
        Rope r = ropes(o, known)[z];
        if (seen.isEmpty() || r == null) {
            return ANY;
        }
        return what == 0 ? (int) (mean(seen) - r.lean()) : Math.abs(r.lean()) > r.width() ? 1 : 0;
    }

    int longitude(int g, int h, int known, int what) {
        if (!in(g, 0, 3) || !in(h, 0, 3) || g == h || !week(known) || !in(what, 0, 1)) {
            return THESE;
        }
        Map<List<Integer>, List<Rec>> sights = new HashMap<>();
        for (Rec r : known(known)) {
            sights.computeIfAbsent(List.of(r.observer(), r.night(), r.star(), r.way()), k -> new ArrayList<>()).add(r);
        }
        Rope[][] all = new Rope[s.born.size()][];
        for (int i = 0; i < all.length; i++) {
            all[i] = ropes(i, known);
        }
        List<Long> found = new ArrayList<>();
        for (List<Integer> p : sights.keySet()) {
            for (List<Integer> q : sights.keySet()) {
                Night m = s.nights.get(p.get(1));
                Night n = s.nights.get(q.get(1));
                boolean fit = m.house() == g && n.house() == h && m.week() == n.week()
                    && p.subList(2, 4).equals(q.subList(2, 4)) && p.get(3) != 3;
                Rope r = all[q.get(0)][p.get(0)];
                if (fit && r != null) {
                    found.add(mean(sights.get(q)) - mean(sights.get(p)) - r.lean());
                }
            }
        }
        return what == 1 ? found.size() : found.isEmpty() ? ANY : (int) floor(sum(found), found.size());
    }

    // ---- journeys

    int journey(int a, int b, int weeks) {
        if (s.journeys.size() == 9 || !obs(a) || !obs(b) || a == b || !in(weeks, 1, 99)) {
            return -1;
        }
        s.journeys.add(new Journey(a, b, weeks));
        return s.journeys.size() - 1;
    }

    boolean[][] links() {
        int n = s.born.size();
        boolean[][] links = new boolean[n][n];
        for (int a = 0; a < n; a++) {
            for (int b = 0; b < n; b++) {
                links[a][b] = a != b && !differences(a, b, s.now).isEmpty();
            }
        }
        return links;
    }

    Set<Integer> reached(boolean[][] links, int a) {
        Set<Integer> all = new HashSet<>(List.of(a));
        for (int round = 0; round < links.length; round++) {
            for (int i = 0; i < links.length; i++) {
                for (int j = 0; j < links.length; j++) {
                    if (links[i][j] && all.contains(i)) {
                        all.add(j);
                    }
                }
            }
        }
        return all;
    }

    int pairs(boolean[][] links) {
        int pairs = 0;
        for (int a = 0; a < links.length; a++) {
            for (int b : reached(links, a)) {
                pairs += a < b ? 1 : 0;
            }
        }
        return pairs;
    }

    boolean[][] with(boolean[][] links, int set) {
        boolean[][] more = new boolean[links.length][];
        for (int i = 0; i < links.length; i++) {
            more[i] = Arrays.copyOf(links[i], links.length);
        }
        for (int i = 0; i < s.journeys.size(); i++) {
            if ((set & 1 << i) != 0) {
                Journey j = s.journeys.get(i);
                more[j.a()][j.b()] = true;
                more[j.b()][j.a()] = true;
            }
        }
        return more;
    }

    int tied(int set) {
        return !in(set, 0, (1 << s.journeys.size()) - 1) ? -1 : pairs(with(links(), set));
    }

    int plan(int weeks, int what) {
        if (!in(weeks, 0, 999) || !in(what, 0, 2)) {
            return -1;
        }
        boolean[][] links = links();
        int[] best = null;
        for (int set = 0; set < 1 << s.journeys.size(); set++) {
            int lasts = 0;
            for (int i = 0; i < s.journeys.size(); i++) {
                lasts += (set & 1 << i) != 0 ? s.journeys.get(i).weeks() : 0;
            }
            if (lasts > weeks) {
                continue;
            }
            int[] here = {-pairs(with(links, set)), lasts, set};
            if (best == null || Arrays.compare(here, best) < 0) {
                best = here;
            }
        }
        return what == 0 ? best[2] : what == 1 ? -best[0] : best[1];
    }

    int next() {
        boolean[][] links = links();
        int most = -1;
        int best = -2;
        for (int a = 0; a < links.length; a++) {
            for (int b = a + 1; b < links.length; b++) {
                if (reached(links, a).contains(b)) {
                    continue;
                }
                boolean[][] more = with(links, 0);
                more[a][b] = true;
                more[b][a] = true;
                if (pairs(more) > most) {
                    most = pairs(more);
                    best = 16 * a + b;
                }
            }
        }
        return best;
    }

    // ---- said, worlds, marks

    long said(int a, int b, int known, int part) {
        if (!obs(a) || !obs(b) || a == b || !week(known) || !in(part, 0, 1)) {
            return -1;
        }
        List<Long> all = differences(a, b, known).stream().filter(d -> d != 0).toList();
        int n = all.size();
        long h = all.stream().filter(d -> d > 0).count();
        if (n > 60) {
            return -2;
        }
        BigInteger[] row = {BigInteger.ONE};
        for (int i = 1; i <= n; i++) {
            BigInteger[] then = new BigInteger[i + 1];
            for (int k = 0; k <= i; k++) {
                then[k] = (k > 0 ? row[k - 1] : BigInteger.ZERO).add(k < i ? row[k] : BigInteger.ZERO);
            }
            row = then;
        }
        BigInteger ways = BigInteger.ZERO;
        for (int k = 0; k <= n; k++) {
            ways = k >= h || part == 1 ? ways.add(row[k]) : ways;
        }
        return ways.longValueExact();
    }

    int leans(int o, int l) {
        if (!obs(o) || !in(l, -1, laws.size() - 1)) {
            return 0;
        }
        s.laws.set(o, l);
        return 1;
    }

    int later(int a, int b, int seed, int slip, int n) {
        if (!obs(a) || !obs(b) || a == b || seed < 0 || !in(slip, 0, 99) || !in(n, 1, 50)) {
            return -1;
        }
        List<Rec> theirs = new ArrayList<>();
        for (Rec r : known(s.now)) {
            boolean met = (r.observer() == a || r.observer() == b) && r.way() != 3
                && !seenRecs(a, r.night(), r.star(), r.way(), s.now).isEmpty()
                && !seenRecs(b, r.night(), r.star(), r.way(), s.now).isEmpty();
            if (met) {
                theirs.add(r);
            }
        }
        if (theirs.isEmpty()) {
            return -2;
        }
        int above = 0;
        BigInteger x = big(seed);
        for (int i = 0; i < n; i++) {
            List<Long> reduced = new ArrayList<>();
            for (Rec r : theirs) {
                x = x.multiply(big(1103515245)).add(big(12345)).mod(big(2147483648L));
                int l = s.laws.get(r.observer());
                long pace = (r.thread() - 2) * s.stars.get(r.star()).pace();
                long tenth = pace + (l == -1 ? 0 : floor(given(laws.get(l), r), 1000))
                    + x.longValue() / 65536 % (2 * slip + 1) - slip;
                reduced.add(tenth - pace);
            }
            List<Long> all = differences(a, b, theirs, reduced);
            above += floor(sum(all), all.size()) > 0 ? 1 : 0;
        }
        return above;
    }

    int mark(int k) {
        if (!in(k, 0, 3)) {
            return -1;
        }
        marks[k] = s.copy();
        return s.now;
    }

    int back(int k) {
        if (!in(k, 0, 3) || marks[k] == null) {
            return -1;
        }
        s = marks[k].copy();
        return s.now;
    }

    int count(int what) {
        int[] all = {s.now, s.born.size(), s.stars.size(), s.nights.size(), s.recs.size(), laws.size(),
            s.journeys.size(), tape.size()};
        return in(what, 0, 7) ? all[what] : -1;
    }
}
