/**
 * Observers who put stars on the threads of a glass: how far they are apart, by which ropes they are compared,
 * which laws their leaning follows, and whom to bring together. The document DOC.md tells what each call answers.
 */
public final class EachLater {
    public static final int NONE = -1;

    private static final int NO_ANSWER = -2;
    private static final int WITHOUT_ANY = -1000000000;
    private static final int WITHOUT_THESE = -2000000000;
    private static final int GIVES_NOTHING = -1000000;

    private static final int LAST_WEEK = 9999;
    private static final int FIRST_BORN = -5000;
    private static final int YEAR_WEEKS = 52;
    private static final int LAST_YEAR = 192;
    private static final int LAST_TENTH = 9999;
    private static final int MAX_OBSERVERS = 16;
    private static final int MAX_STARS = 24;
    private static final int MAX_NIGHTS = 80;
    private static final int MAX_RECORDS = 400;
    private static final int MAX_JOURNEYS = 9;
    private static final int MAX_LAWS = 10;
    private static final int MAX_MARKS = 4;
    private static final int MAX_BYTES = 400;
    private static final int LAST_HOUSE = 3;
    private static final int LAST_THREAD = 4;
    private static final int MIDDLE_THREAD = 2;
    private static final int LAST_WAY = 4;
    private static final int FEIGNED = 3;
    private static final int MAX_HEADS = 60;
    // A week behind all others: who was never struck is struck then, so that one comparison serves both.
    private static final int NEVER = 10000;

    // columns of OBSERVERS
    private static final int BORN = 0;
    private static final int OWN_LAW = 1;
    // columns of STARS
    private static final int BRIGHT = 0;
    private static final int PACE = 1;
    private static final int SIDE = 2;
    // columns of NIGHTS
    private static final int HOUSE = 0;
    private static final int WEEK = 1;
    // columns of RECORDS
    private static final int OF_NIGHT = 0;
    private static final int OF_STAR = 1;
    private static final int THREAD = 2;
    private static final int OF_OBSERVER = 3;
    private static final int WAY = 4;
    private static final int TENTH = 5;
    private static final int TRUTH = 6;
    private static final int KNOWN = 7;
    private static final int STRUCK = 8;
    // columns of JOURNEYS
    private static final int ONE = 0;
    private static final int OTHER = 1;
    private static final int LASTS = 2;

    // Steps of a law, and the signs of its text that become such steps: a number is its own step.
    private static final int FIRST_WORD = 100000;
    private static final int OR = 200000;
    private static final int AND = 200001;
    private static final int NOT = 200002;
    private static final int LESS = 200003;
    private static final int LESS_OR_SAME = 200004;
    private static final int SAME = 200005;
    private static final int MORE_OR_SAME = 200006;
    private static final int MORE = 200007;
    private static final int PLUS = 200008;
    private static final int MINUS = 200009;
    private static final int TIMES = 200010;
    private static final int CLAUSE_ALWAYS = 200011;
    private static final int CLAUSE_IF = 200012;

    private final Book book = new Book();
    private final Book[] marks = new Book[MAX_MARKS];
    private final int[] tape = new int[MAX_BYTES];
    private int tapeBytes = 0;
    private final Law[] laws = new Law[MAX_LAWS];
    private int lawsMade = 0;
    private final long[] lefts = new long[MAX_LAWS];
    private final Reader reader = new Reader();
    private final Scale scale = new Scale();
    private final Sights sights = new Sights();
    private final Meetings meetings = new Meetings();
    private final Ropes ropes = new Ropes();
    private final Bonds bonds = new Bonds();
    private final Worlds worlds = new Worlds();
    private final Tally tally = new Tally();

    public EachLater() {
    }

    public boolean clock(int week) {
        if (!isWeek(week) || week < book.now) {
            return false;
        }
        book.now = week;
        return true;
    }

    public int observer(int born) {
        if (!isWithin(born, FIRST_BORN, LAST_WEEK)) {
            return NONE;
        }
        int made = book.observers.grow();
        book.observers.put(made, BORN, born);
        book.observers.put(made, OWN_LAW, NONE);
        return made;
    }

    public int star(int bright, int pace, int side) {
        if (!isWithin(bright, 0, 9) || !isWithin(pace, 1, 99) || !isWithin(side, 0, 1)) {
            return NONE;
        }
        int made = book.stars.grow();
        book.stars.put(made, BRIGHT, bright);
        book.stars.put(made, PACE, pace);
        book.stars.put(made, SIDE, side);
        return made;
    }

    public int night(int house, int week) {
        if (!isHouse(house) || !isWithin(week, 0, book.now)) {
            return NONE;
        }
        int made = book.nights.grow();
        book.nights.put(made, HOUSE, house);
        book.nights.put(made, WEEK, week);
        return made;
    }

    public int record(int night, int star, int thread, int observer, int way, int tenth, int truth) {
        boolean placed = isSight(observer, night, star, way) && isWithin(thread, 0, LAST_THREAD);
        boolean told = isWithin(tenth, 0, LAST_TENTH)
            && (way == FEIGNED ? isWithin(truth, 0, LAST_TENTH) : truth == NONE);
        if (!placed || !told) {
            return NONE;
        }
        int made = book.records.grow();
        book.records.put(made, OF_NIGHT, night);
        book.records.put(made, OF_STAR, star);
        book.records.put(made, THREAD, thread);
        book.records.put(made, OF_OBSERVER, observer);
        book.records.put(made, WAY, way);
        book.records.put(made, TENTH, tenth);
        book.records.put(made, TRUTH, truth);
        book.records.put(made, KNOWN, book.now);
        book.records.put(made, STRUCK, NEVER);
        return made;
    }

    public boolean strike(int record) {
        if (!book.records.has(record) || book.records.at(record, STRUCK) != NEVER) {
            return false;
        }
        book.records.put(record, STRUCK, book.now);
        return true;
    }

    public int seen(int observer, int night, int star, int way, int known, int what) {
        boolean these = isSight(observer, night, star, way) && isWeek(known);
        if (!these || !isWithin(what, 0, 1)) {
            return what == 0 ? NONE : WITHOUT_ANY;
        }
        tallySeen(observer, night, star, way, known);
        return what == 0 ? tally.many : (int) tally.together;
    }

    public int feed(int a, int b, int c, int d, int e) {
        if (tapeBytes + 20 > MAX_BYTES) {
            return NONE;
        }
        feedNumber(a);
        feedNumber(b);
        feedNumber(c);
        feedNumber(d);
        feedNumber(e);
        return tapeBytes;
    }

    public int end(int n) {
        if (!isWithin(n, 0, tapeBytes)) {
            return NONE;
        }
        tapeBytes = n;
        return n;
    }

    public int law() {
        if (lawsMade >= MAX_LAWS) {
            return NONE;
        }
        int fault = reader.read(tape, tapeBytes);
        tapeBytes = 0;
        if (fault != 0) {
            return -2 - fault;
        }
        laws[lawsMade] = reader.lawRead();
        lawsMade++;
        return lawsMade - 1;
    }

    public int gives(int law, int record) {
        Law told = lawOf(law);
        if (told == null || !book.records.has(record)) {
            return GIVES_NOTHING;
        }
        return scale.weigh(told, book, record);
    }

    public int two(int a, int b, int known, int what) {
        if (!isPair(a, b) || !isWeek(known) || !isWithin(what, 0, 3)) {
            return WITHOUT_THESE;
        }
        measure(known);
        Tally met = meetings.of(a, b);
        if (what == 0) {
            return met.many;
        }
        if (met.many == 0) {
            return WITHOUT_ANY;
        }
        if (what == 1) {
            return (int) met.mean();
        }
        return what == 2 ? (int) met.span() : (int) meetings.width(a, b);
    }

    public int rope(int a, int b, int known, int what) {
        if (!hasBoth(a, b) || !isWeek(known) || !isWithin(what, 0, 2)) {
            return WITHOUT_THESE;
        }
        tie(b, known);
        if (!ropes.reach(a)) {
            return what == 0 ? NO_ANSWER : WITHOUT_ANY;
        }
        if (what == 0) {
            return ropes.links(a);
        }
        return what == 1 ? (int) ropes.lean(a) : (int) ropes.width(a);
    }

    public int knot(int a, int b, int known, int k) {
        if (!hasBoth(a, b) || !isWeek(known)) {
            return NONE;
        }
        tie(b, known);
        if (!ropes.reach(a) || !isWithin(k, 0, ropes.links(a))) {
            return NONE;
        }
        return ropes.along(a, k);
    }

    public int far(int a, int known) {
        if (!book.observers.has(a) || !isWeek(known)) {
            return NONE;
        }
        tie(a, known);
        int bits = 0;
        for (int i = 0; i < book.observers.size; i++) {
            if (!ropes.reach(i)) {
                bits |= 1 << i;
            }
        }
        return bits;
    }

    public int own(int observer, int year, int known, int what) {
        boolean these = book.observers.has(observer) && isWithin(year, NONE, LAST_YEAR) && isWeek(known);
        if (!these || !isWithin(what, 0, 2)) {
            return WITHOUT_THESE;
        }
        tallyOwn(observer, year, known);
        if (what == 0) {
            return tally.many;
        }
        if (tally.many == 0) {
            return WITHOUT_ANY;
        }
        return what == 1 ? (int) tally.thousandths() : (int) tally.span();
    }

    public long left(int observer, int law, int known) {
        Law told = lawOf(law);
        if (told == null || !book.observers.has(observer) || !isWeek(known)) {
            return NONE;
        }
        return leftBy(told, observer, known);
    }

    public int best(int observer, int known, int p, int what) {
        boolean these = book.observers.has(observer) && isWeek(known) && isWithin(p, 0, 900);
        if (!these || !isWithin(what, 0, 1)) {
            return NO_ANSWER;
        }
        int least = leastLeft(observer, known);
        if (what == 0) {
            return least;
        }
        return least == NONE ? 0 : stillBits(lefts[least] / 100 * (100 + p));
    }

    public long scatter(int way, int known) {
        if (!isWithin(way, 0, LAST_WAY) || !isWeek(known)) {
            return NONE;
        }
        sights.gather(book, known);
        return sights.scatterOf(way);
    }

    public int finest(int known) {
        if (!isWeek(known)) {
            return NONE;
        }
        sights.gather(book, known);
        int finest = NO_ANSWER;
        long least = 0;
        for (int way = 0; way <= LAST_WAY; way++) {
            long scatter = sights.scatterOf(way);
            if (scatter != NO_ANSWER && (finest == NO_ANSWER || scatter < least)) {
                finest = way;
                least = scatter;
            }
        }
        return finest;
    }

    public int moved(int observer, int night, int star, int way, int z, int known, int what) {
        boolean these = isSight(observer, night, star, way) && book.observers.has(z) && isWeek(known);
        if (!these || !isWithin(what, 0, 1)) {
            return WITHOUT_THESE;
        }
        tallySeen(observer, night, star, way, known);
        tie(z, known);
        if (tally.many == 0 || !ropes.reach(observer)) {
            return WITHOUT_ANY;
        }
        long lean = ropes.lean(observer);
        if (what == 0) {
            return (int) (tally.thousandths() - lean);
        }
        return Math.abs(lean) > ropes.width(observer) ? 1 : 0;
    }

    public int longitude(int g, int h, int known, int what) {
        boolean these = isHouse(g) && isHouse(h) && g != h && isWeek(known);
        if (!these || !isWithin(what, 0, 1)) {
            return WITHOUT_THESE;
        }
        tallyHouses(g, h, known);
        if (what == 1) {
            return tally.many;
        }
        return tally.many == 0 ? WITHOUT_ANY : (int) tally.mean();
    }

    public int journey(int a, int b, int weeks) {
        if (!isPair(a, b) || !isWithin(weeks, 1, 99)) {
            return NONE;
        }
        int made = book.journeys.grow();
        book.journeys.put(made, ONE, a);
        book.journeys.put(made, OTHER, b);
        book.journeys.put(made, LASTS, weeks);
        return made;
    }

    public int tied(int set) {
        if (!isWithin(set, 0, allJourneys())) {
            return NONE;
        }
        measure(book.now);
        bonds.begin(meetings, book.observers.size);
        return bonds.pairsWith(book.journeys, set);
    }

    public int plan(int weeks, int what) {
        if (!isWithin(weeks, 0, 999) || !isWithin(what, 0, 2)) {
            return NONE;
        }
        measure(book.now);
        bonds.begin(meetings, book.observers.size);
        int chosen = bestSet(weeks);
        if (what == 0) {
            return chosen;
        }
        return what == 1 ? bonds.pairsWith(book.journeys, chosen) : weeksOf(chosen);
    }

    public int next() {
        measure(book.now);
        bonds.begin(meetings, book.observers.size);
        int chosen = NO_ANSWER;
        int most = 0;
        for (int a = 0; a < book.observers.size; a++) {
            for (int b = a + 1; b < book.observers.size; b++) {
                int gain = bonds.gain(a, b);
                if (gain > most) {
                    most = gain;
                    chosen = 16 * a + b;
                }
            }
        }
        return chosen;
    }

    public long said(int a, int b, int known, int part) {
        if (!isPair(a, b) || !isWeek(known) || !isWithin(part, 0, 1)) {
            return NONE;
        }
        sights.gather(book, known);
        int unlike = sights.differences(a, b, false);
        if (unlike > MAX_HEADS) {
            return NO_ANSWER;
        }
        return part == 1 ? 1L << unlike : waysWithHeads(unlike, sights.differences(a, b, true));
    }

    public boolean leans(int observer, int law) {
        if (!book.observers.has(observer) || !isWithin(law, NONE, lawsMade - 1)) {
            return false;
        }
        book.observers.put(observer, OWN_LAW, law);
        return true;
    }

    public int later(int a, int b, int seed, int slip, int n) {
        if (!isPair(a, b) || seed < 0 || !isWithin(slip, 0, 99) || !isWithin(n, 1, 50)) {
            return NONE;
        }
        sights.gather(book, book.now);
        worlds.begin(sights, a, b);
        for (int i = 0; i < book.records.size; i++) {
            worlds.take(i, ownLeanTenths(i));
        }
        return worlds.areMet() ? worlds.draw(seed, slip, n) : NO_ANSWER;
    }

    public int mark(int k) {
        if (!isWithin(k, 0, MAX_MARKS - 1)) {
            return NONE;
        }
        Book kept = marks[k];
        if (kept == null) {
            kept = new Book();
            marks[k] = kept;
        }
        kept.become(book);
        return book.now;
    }

    public int back(int k) {
        if (!isWithin(k, 0, MAX_MARKS - 1)) {
            return NONE;
        }
        Book kept = marks[k];
        if (kept == null) {
            return NONE;
        }
        book.become(kept);
        return book.now;
    }

    public int count(int what) {
        switch (what) {
            case 0:
                return book.now;
            case 1:
                return book.observers.size;
            case 2:
                return book.stars.size;
            case 3:
                return book.nights.size;
            case 4:
                return book.records.size;
            case 5:
                return lawsMade;
            case 6:
                return book.journeys.size;
            case 7:
                return tapeBytes;
            default:
                return NONE;
        }
    }

    private static boolean isWithin(int number, int least, int greatest) {
        return number >= least && number <= greatest;
    }

    private static boolean isWeek(int week) {
        return isWithin(week, 0, LAST_WEEK);
    }

    private static boolean isHouse(int house) {
        return isWithin(house, 0, LAST_HOUSE);
    }

    private boolean isSight(int observer, int night, int star, int way) {
        return book.observers.has(observer) && book.nights.has(night) && book.stars.has(star)
            && isWithin(way, 0, LAST_WAY);
    }

    private boolean hasBoth(int a, int b) {
        return book.observers.has(a) && book.observers.has(b);
    }

    private boolean isPair(int a, int b) {
        return hasBoth(a, b) && a != b;
    }

    private Law lawOf(int number) {
        return isWithin(number, 0, lawsMade - 1) && number < MAX_LAWS ? laws[number] : null;
    }

    private void feedNumber(int number) {
        for (int shift = 24; shift >= 0; shift -= 8) {
            if (tapeBytes < MAX_BYTES) {
                tape[tapeBytes] = (number >>> shift) & 255;
                tapeBytes++;
            }
        }
    }

    private void tallySeen(int observer, int night, int star, int way, int known) {
        tally.clear();
        for (int i = 0; i < book.records.size; i++) {
            boolean of = book.records.at(i, OF_OBSERVER) == observer && book.records.at(i, OF_NIGHT) == night
                && book.records.at(i, OF_STAR) == star && book.records.at(i, WAY) == way;
            if (of && book.isKnown(i, known)) {
                tally.add(book.reduced(i));
            }
        }
    }

    private void tallyOwn(int observer, int year, int known) {
        tally.clear();
        for (int i = 0; i < book.records.size; i++) {
            if (book.isOwn(i, observer, known) && (year == NONE || book.yearOf(i) == year)) {
                tally.add(book.late(i));
            }
        }
    }

    private void measure(int known) {
        sights.gather(book, known);
        meetings.measure(sights);
    }

    private void tie(int goal, int known) {
        sights.gather(book, known);
        meetings.measure(sights);
        ropes.lead(meetings, book.observers.size, goal);
    }

    private long leftBy(Law law, int observer, int known) {
        long together = 0;
        for (int i = 0; i < book.records.size; i++) {
            if (book.isOwn(i, observer, known)) {
                long less = 1000L * book.late(i) - scale.weigh(law, book, i);
                together += less * less;
            }
        }
        return together;
    }

    private int leastLeft(int observer, int known) {
        int chosen = NONE;
        for (int i = 0; i < lawsMade; i++) {
            Law law = lawOf(i);
            lefts[i] = law == null ? 0 : leftBy(law, observer, known);
            if (chosen == NONE || lefts[i] < lefts[chosen]) {
                chosen = i;
            }
        }
        return chosen;
    }

    private int stillBits(long most) {
        int bits = 0;
        for (int i = 0; i < lawsMade; i++) {
            if (lefts[i] <= most) {
                bits |= 1 << i;
            }
        }
        return bits;
    }

    private void tallyHouses(int g, int h, int known) {
        measure(known);
        tally.clear();
        for (int a = 0; a < book.observers.size; a++) {
            ropes.lead(meetings, book.observers.size, a);
            for (int i = 0; i < sights.size; i++) {
                if (sights.isBy(i, a) && isOfHouse(i, g)) {
                    tallyAcross(i, h);
                }
            }
        }
    }

    private boolean isOfHouse(int sight, int house) {
        return !sights.isFeigned(sight) && book.nights.at(sights.night[sight], HOUSE) == house;
    }

    private void tallyAcross(int sight, int house) {
        int week = book.nights.at(sights.night[sight], WEEK);
        for (int i = 0; i < sights.size; i++) {
            boolean alike = sights.star[i] == sights.star[sight] && sights.way[i] == sights.way[sight];
            int b = sights.observer[i];
            if (alike && isOfHouse(i, house) && book.nights.at(sights.night[i], WEEK) == week && ropes.reach(b)) {
                tally.add(sights.mean(i) - sights.mean(sight) - ropes.lean(b));
            }
        }
    }

    private int allJourneys() {
        return (1 << book.journeys.size) - 1;
    }

    private int weeksOf(int set) {
        int weeks = 0;
        for (int i = 0; i < book.journeys.size; i++) {
            if ((set >> i & 1) == 1) {
                weeks += book.journeys.at(i, LASTS);
            }
        }
        return weeks;
    }

    private int bestSet(int weeks) {
        int chosen = 0;
        int most = bonds.pairsWith(book.journeys, 0);
        int fewest = 0;
        for (int set = 1; set <= allJourneys(); set++) {
            int lasts = weeksOf(set);
            if (lasts <= weeks) {
                int pairs = bonds.pairsWith(book.journeys, set);
                if (pairs > most || pairs == most && lasts < fewest) {
                    chosen = set;
                    most = pairs;
                    fewest = lasts;
                }
            }
        }
        return chosen;
    }

    // n over k goes from each k to the next: the product is n times (n - 1 over k), which for 60 fits 64 bits.
    private static long waysWithHeads(int n, int heads) {
        long ways = 0;
        long over = 1;
        for (int k = 0; k <= n; k++) {
            if (k >= heads) {
                ways += over;
            }
            over = over * (n - k) / (k + 1);
        }
        return ways;
    }

    private int ownLeanTenths(int record) {
        Law law = lawOf(book.observers.at(book.records.at(record, OF_OBSERVER), OWN_LAW));
        return law == null ? 0 : Math.floorDiv(scale.weigh(law, book, record), 1000);
    }

    /** Numbers put together: how many, their sum, the least and the greatest. */
    private static final class Tally {
        private int many = 0;
        private long together = 0;
        private long least = 0;
        private long greatest = 0;

        void clear() {
            many = 0;
            together = 0;
            least = 0;
            greatest = 0;
        }

        void add(long number) {
            least = many == 0 ? number : Math.min(least, number);
            greatest = many == 0 ? number : Math.max(greatest, number);
            together += number;
            many++;
        }

        long mean() {
            return many == 0 ? 0 : Math.floorDiv(together, (long) many);
        }

        long thousandths() {
            return many == 0 ? 0 : Math.floorDiv(1000 * together, (long) many);
        }

        long span() {
            return greatest - least;
        }
    }

    /** Rows of numbers in columns; a row or column that is not there reads 0 and takes nothing. */
    private static final class Table {
        private final int limit;
        private final int width;
        private final int[] numbers;
        private int size = 0;

        Table(int limit, int width) {
            this.limit = limit;
            this.width = width;
            this.numbers = new int[limit * width];
        }

        boolean has(int row) {
            return row >= 0 && row < size;
        }

        int grow() {
            if (size >= limit) {
                return NONE;
            }
            size++;
            return size - 1;
        }

        int at(int row, int column) {
            boolean there = row >= 0 && row < size && column >= 0 && column < width;
            return there ? numbers[row * width + column] : 0;
        }

        void put(int row, int column, int number) {
            if (has(row) && column >= 0 && column < width) {
                numbers[row * width + column] = number;
            }
        }

        void become(Table other) {
            if (other.limit == limit && other.width == width) {
                System.arraycopy(other.numbers, 0, numbers, 0, other.size * width);
                size = other.size;
            }
        }
    }

    /** All that a MARK keeps. */
    private static final class Book {
        private int now = 0;
        private final Table observers = new Table(MAX_OBSERVERS, 2);
        private final Table stars = new Table(MAX_STARS, 3);
        private final Table nights = new Table(MAX_NIGHTS, 2);
        private final Table records = new Table(MAX_RECORDS, 9);
        private final Table journeys = new Table(MAX_JOURNEYS, 3);

        void become(Book other) {
            now = other.now;
            observers.become(other.observers);
            stars.become(other.stars);
            nights.become(other.nights);
            records.become(other.records);
            journeys.become(other.journeys);
        }

        boolean isKnown(int record, int week) {
            return records.at(record, KNOWN) <= week && records.at(record, STRUCK) > week;
        }

        boolean isOwn(int record, int observer, int week) {
            return records.at(record, WAY) == FEIGNED && records.at(record, OF_OBSERVER) == observer
                && isKnown(record, week);
        }

        int reduced(int record) {
            int threads = records.at(record, THREAD) - MIDDLE_THREAD;
            return records.at(record, TENTH) - threads * stars.at(records.at(record, OF_STAR), PACE);
        }

        int late(int record) {
            return records.at(record, TENTH) - records.at(record, TRUTH);
        }

        int weekOf(int record) {
            return nights.at(records.at(record, OF_NIGHT), WEEK);
        }

        int yearOf(int record) {
            return Math.floorDiv(weekOf(record), YEAR_WEEKS);
        }

        int ageAt(int record) {
            return (weekOf(record) - observers.at(records.at(record, OF_OBSERVER), BORN)) / YEAR_WEEKS;
        }

        /** What a word of a law is for a record; the words' numbers are those of Reader.wordOf. */
        int word(int number, int record) {
            int star = records.at(record, OF_STAR);
            switch (number) {
                case 0:
                    return stars.at(star, BRIGHT);
                case 1:
                    return stars.at(star, PACE);
                case 2:
                    return stars.at(star, SIDE);
                case 3:
                    return star;
                case 4:
                    return records.at(record, THREAD);
                case 5:
                    return records.at(record, WAY);
                case 6:
                    return weekOf(record);
                case 7:
                    return yearOf(record);
                case 8:
                    return nights.at(records.at(record, OF_NIGHT), HOUSE);
                default:
                    return ageAt(record);
            }
        }
    }

    /** A law as steps, operands before their operation, each clause closed by a step of its own. */
    private static final class Law {
        private final int[] steps;

        Law(int[] from, int size) {
            int length = Math.max(0, Math.min(size, from.length));
            steps = new int[length];
            System.arraycopy(from, 0, steps, 0, length);
        }
    }

    /** Weighs a record by a law. */
    private static final class Scale {
        private static final int HELD = 999999;
        // A law opens ten brackets at most, each with an or and an and before it: some thirty numbers wait at once.
        private static final int ROOM = 64;

        private final long[] waiting = new long[ROOM];
        private int height = 0;

        int weigh(Law law, Book book, int record) {
            height = 0;
            for (int i = 0; i < law.steps.length; i++) {
                int step = law.steps[i];
                if (step == CLAUSE_ALWAYS) {
                    return held(drop());
                }
                if (step == CLAUSE_IF) {
                    boolean holds = drop() != 0;
                    long sum = drop();
                    if (holds) {
                        return held(sum);
                    }
                } else if (step < FIRST_WORD) {
                    lift(step);
                } else if (step < OR) {
                    lift(book.word(step - FIRST_WORD, record));
                } else {
                    operate(step);
                }
            }
            return 0;
        }

        private static int held(long sum) {
            return (int) Math.max(-HELD, Math.min(HELD, sum));
        }

        private void lift(long number) {
            if (height < ROOM) {
                waiting[height] = number;
                height++;
            }
        }

        private long drop() {
            if (height == 0) {
                return 0;
            }
            height--;
            return waiting[height];
        }

        private void operate(int step) {
            long right = drop();
            if (step == NOT) {
                lift(right == 0 ? 1 : 0);
            } else {
                lift(joined(step, drop(), right));
            }
        }

        private static long joined(int step, long a, long b) {
            switch (step) {
                case PLUS:
                    return a + b;
                case MINUS:
                    return a - b;
                case TIMES:
                    return a * b;
                case AND:
                    return a & b;
                case OR:
                    return a | b;
                default:
                    return holds(step, a, b) ? 1 : 0;
            }
        }

        private static boolean holds(int sign, long a, long b) {
            switch (sign) {
                case LESS:
                    return a < b;
                case LESS_OR_SAME:
                    return a <= b;
                case SAME:
                    return a == b;
                case MORE_OR_SAME:
                    return a >= b;
                default:
                    return a > b;
            }
        }
    }

    /**
     * Reads the text of a law, a sign or word at a time, and makes its steps: what waits for its right side stands
     * on a pile, so that no call nests however deep the text does.
     */
    private static final class Reader {
        private static final int MAX_CLAUSES = 12;
        private static final int MAX_DEPTH = 10;
        private static final int MAX_PARTS = 60;
        private static final int MAX_DIGITS = 5;
        private static final int ROOM = 64;

        // kinds beside those that are steps
        private static final int NUMBER = 300000;
        private static final int WORD = 300001;
        private static final int LEAN = 300002;
        private static final int IF = 300003;
        private static final int OPEN = 300004;
        private static final int CLOSE = 300005;
        private static final int NEXT_CLAUSE = 300006;
        private static final int TEXT_END = 300007;
        private static final int STRANGE = 300008;

        // what is to stand at this place
        private static final int WANTS_LEAN = 0;
        private static final int WANTS_VALUE = 1;
        private static final int BEHIND_VALUE = 2;
        private static final int WANTS_FACT = 3;
        private static final int WANTS_LEFT = 4;
        private static final int BEHIND_LEFT = 5;
        private static final int WANTS_RIGHT = 6;
        private static final int BEHIND_RIGHT = 7;
        private static final int BEHIND_BRACKET = 8;
        private static final int OVER = 9;

        private static final int STANDS_NOT = 0;
        private static final int MORE_DIGITS = 1;
        private static final int TOO_DEEP = 2;
        private static final int TOO_MANY = 3;
        private static final int CLAUSE_TOO_MANY = 4;

        private int[] text = new int[0];
        private int bytes = 0;
        private int from = 0;
        private int to = 0;
        private int kind = STRANGE;
        private int value = 0;
        private int state = WANTS_LEAN;
        private int fault = 0;
        private int clauses = 0;
        private boolean hasTest = false;
        private int parts = 0;
        private int depth = 0;
        private int brackets = 0;
        // Each sign makes one step at most, and each clause one more for its end.
        private final int[] steps = new int[MAX_BYTES + MAX_CLAUSES];
        private int made = 0;
        private final int[] pile = new int[ROOM];
        private int piled = 0;

        /** The FAULT of a text, 0 if it is a law. */
        int read(int[] tape, int length) {
            text = tape;
            bytes = Math.max(0, Math.min(length, tape.length));
            to = 0;
            state = WANTS_LEAN;
            fault = 0;
            clauses = 0;
            parts = 0;
            depth = 0;
            brackets = 0;
            made = 0;
            piled = 0;
            for (int i = 0; i <= bytes && fault == 0 && state != OVER; i++) {
                take();
                follow();
            }
            return fault;
        }

        Law lawRead() {
            return new Law(steps, made);
        }

        private int byteAt(int place) {
            return place >= 0 && place < bytes ? text[place] : 0;
        }

        private boolean isDigit(int place) {
            return byteAt(place) >= '0' && byteAt(place) <= '9';
        }

        private boolean isLetter(int place) {
            return byteAt(place) >= 'a' && byteAt(place) <= 'z';
        }

        private void take() {
            from = to;
            while (from < bytes && byteAt(from) == ' ') {
                from++;
            }
            to = from + 1;
            if (from >= bytes) {
                kind = TEXT_END;
            } else if (isDigit(from)) {
                takeNumber();
            } else if (isLetter(from)) {
                takeWord();
            } else {
                takeSign();
            }
        }

        private void takeNumber() {
            kind = NUMBER;
            value = byteAt(from) - '0';
            while (to < bytes && isDigit(to)) {
                // What is longer is a fault anyway: it is not counted up, lest it go round.
                value = to - from < MAX_DIGITS ? value * 10 + byteAt(to) - '0' : value;
                to++;
            }
        }

        private void takeWord() {
            while (to < bytes && isLetter(to)) {
                to++;
            }
            kind = keywordKind();
            if (kind == STRANGE) {
                value = wordOf();
                kind = value == NONE ? STRANGE : WORD;
            }
        }

        private int keywordKind() {
            if (spells("lean")) {
                return LEAN;
            }
            if (spells("if")) {
                return IF;
            }
            if (spells("or")) {
                return OR;
            }
            if (spells("and")) {
                return AND;
            }
            return spells("not") ? NOT : STRANGE;
        }

        private int wordOf() {
            for (int i = 0; i < 10; i++) {
                if (spells(spelling(i))) {
                    return i;
                }
            }
            return NONE;
        }

        private static String spelling(int word) {
            switch (word) {
                case 0:
                    return "bright";
                case 1:
                    return "pace";
                case 2:
                    return "side";
                case 3:
                    return "star";
                case 4:
                    return "thread";
                case 5:
                    return "way";
                case 6:
                    return "week";
                case 7:
                    return "year";
                case 8:
                    return "house";
                default:
                    return "age";
            }
        }

        private boolean spells(String word) {
            if (word.length() != to - from) {
                return false;
            }
            for (int i = 0; i < word.length(); i++) {
                if (word.charAt(i) != byteAt(from + i)) {
                    return false;
                }
            }
            return true;
        }

        private void takeSign() {
            boolean widened = byteAt(to) == '=';
            kind = signKind(byteAt(from), widened);
            if (kind == LESS_OR_SAME || kind == MORE_OR_SAME) {
                to++;
            }
        }

        private static int signKind(int sign, boolean widened) {
            switch (sign) {
                case ';':
                    return NEXT_CLAUSE;
                case '[':
                    return OPEN;
                case ']':
                    return CLOSE;
                case '+':
                    return PLUS;
                case '-':
                    return MINUS;
                case '*':
                    return TIMES;
                case '=':
                    return SAME;
                case '<':
                    return widened ? LESS_OR_SAME : LESS;
                case '>':
                    return widened ? MORE_OR_SAME : MORE;
                default:
                    return STRANGE;
            }
        }

        private void fail(int which) {
            fault = 1 + 8 * from + which;
        }

        private void follow() {
            switch (state) {
                case WANTS_LEAN:
                    openClause();
                    break;
                case WANTS_VALUE:
                    putValue(BEHIND_VALUE);
                    break;
                case BEHIND_VALUE:
                    followValue();
                    break;
                case WANTS_FACT:
                    openFact();
                    break;
                case WANTS_LEFT:
                    putValue(BEHIND_LEFT);
                    break;
                case BEHIND_LEFT:
                    followLeft();
                    break;
                case WANTS_RIGHT:
                    putValue(BEHIND_RIGHT);
                    break;
                case BEHIND_RIGHT:
                    followRight();
                    break;
                default:
                    followFact();
                    break;
            }
        }

        private void openClause() {
            if (kind != LEAN) {
                fail(STANDS_NOT);
            } else if (clauses == MAX_CLAUSES) {
                fail(CLAUSE_TOO_MANY);
            } else {
                clauses++;
                hasTest = false;
                state = WANTS_VALUE;
            }
        }

        private void putValue(int behind) {
            if (kind != NUMBER && kind != WORD) {
                fail(STANDS_NOT);
            } else if (kind == NUMBER && to - from > MAX_DIGITS) {
                fail(MORE_DIGITS);
            } else if (parts == MAX_PARTS) {
                fail(TOO_MANY);
            } else {
                parts++;
                step(kind == NUMBER ? value : FIRST_WORD + value);
                state = behind;
            }
        }

        private boolean isArithmetic() {
            return kind == PLUS || kind == MINUS || kind == TIMES;
        }

        private void followValue() {
            if (isArithmetic()) {
                join(WANTS_VALUE);
            } else if (kind == IF) {
                settle(1);
                hasTest = true;
                state = WANTS_FACT;
            } else {
                closeClause();
            }
        }

        private void openFact() {
            if (kind != NOT && kind != OPEN) {
                putValue(BEHIND_LEFT);
            } else if (depth == MAX_DEPTH) {
                fail(TOO_DEEP);
            } else {
                depth++;
                brackets += kind == OPEN ? 1 : 0;
                putBy(kind);
            }
        }

        private void followLeft() {
            if (isArithmetic()) {
                join(WANTS_LEFT);
            } else if (kind < LESS || kind > MORE) {
                fail(STANDS_NOT);
            } else if (parts == MAX_PARTS) {
                fail(TOO_MANY);
            } else {
                parts++;
                join(WANTS_RIGHT);
            }
        }

        private void followRight() {
            if (isArithmetic()) {
                join(WANTS_RIGHT);
            } else {
                followFact();
            }
        }

        private void followFact() {
            if (kind == AND || kind == OR) {
                join(WANTS_FACT);
            } else if (brackets == 0) {
                closeClause();
            } else if (kind == CLOSE) {
                closeBracket();
            } else {
                fail(STANDS_NOT);
            }
        }

        private void closeBracket() {
            settle(1);
            if (piled > 0) {
                piled--;
            }
            depth--;
            brackets--;
            state = BEHIND_BRACKET;
        }

        private void closeClause() {
            if (kind != NEXT_CLAUSE && kind != TEXT_END) {
                fail(STANDS_NOT);
                return;
            }
            settle(1);
            step(hasTest ? CLAUSE_IF : CLAUSE_ALWAYS);
            state = kind == TEXT_END ? OVER : WANTS_LEAN;
        }

        private void join(int then) {
            settle(rank(kind));
            putBy(kind);
            state = then;
        }

        private static int rank(int step) {
            switch (step) {
                case OR:
                    return 1;
                case AND:
                    return 2;
                case NOT:
                    return 3;
                case PLUS:
                case MINUS:
                    return 5;
                case TIMES:
                    return 6;
                default:
                    return step == OPEN ? 0 : 4;
            }
        }

        private void putBy(int step) {
            if (piled < ROOM) {
                pile[piled] = step;
                piled++;
            }
        }

        private void settle(int least) {
            while (piled > 0 && rank(pile[piled - 1]) >= least) {
                piled--;
                depth -= pile[piled] == NOT ? 1 : 0;
                step(pile[piled]);
            }
        }

        private void step(int number) {
            if (made < steps.length) {
                steps[made] = number;
                made++;
            }
        }
    }

    /** What was SEEN, as KNOWN in a WEEK: a sight for each NIGHT, STAR, WAY and OBSERVER. */
    private static final class Sights {
        private int size = 0;
        // The first sights of a night's stars and ways hang one on the other, so that a record finds its own soon.
        private final int[] newest = new int[MAX_NIGHTS];
        private final int[] older = new int[MAX_RECORDS];
        // The sights of one night, star and way stand in a ring.
        private final int[] beside = new int[MAX_RECORDS];
        private final int[] night = new int[MAX_RECORDS];
        private final int[] star = new int[MAX_RECORDS];
        private final int[] way = new int[MAX_RECORDS];
        private final int[] observer = new int[MAX_RECORDS];
        private final int[] records = new int[MAX_RECORDS];
        // The THREADS at which it was seen, as bits.
        private final int[] threads = new int[MAX_RECORDS];
        private final int[] reduced = new int[MAX_RECORDS];
        private final long[] squares = new long[MAX_RECORDS];
        private final int[] sightOf = new int[MAX_RECORDS];

        void gather(Book book, int week) {
            size = 0;
            for (int i = 0; i < MAX_NIGHTS; i++) {
                newest[i] = NONE;
            }
            for (int i = 0; i < book.records.size && i < MAX_RECORDS; i++) {
                sightOf[i] = NONE;
                if (book.isKnown(i, week)) {
                    enter(book, i);
                }
            }
        }

        private void enter(Book book, int record) {
            int onNight = book.records.at(record, OF_NIGHT);
            int ofStar = book.records.at(record, OF_STAR);
            int inWay = book.records.at(record, WAY);
            int by = book.records.at(record, OF_OBSERVER);
            int first = find(onNight, ofStar, inWay);
            int sight = ringed(first, by);
            if (sight == NONE) {
                sight = open(onNight, ofStar, inWay, by);
                join(sight, first);
            }
            sightOf[record] = sight;
            if (has(sight)) {
                long number = book.reduced(record);
                records[sight]++;
                threads[sight] |= 1 << book.records.at(record, THREAD);
                reduced[sight] += (int) number;
                squares[sight] += number * number;
            }
        }

        boolean has(int sight) {
            return sight >= 0 && sight < size;
        }

        private int find(int onNight, int ofStar, int inWay) {
            int sight = isWithin(onNight, 0, MAX_NIGHTS - 1) ? newest[onNight] : NONE;
            for (int i = 0; i < size && has(sight); i++) {
                if (star[sight] == ofStar && way[sight] == inWay) {
                    return sight;
                }
                sight = older[sight];
            }
            return NONE;
        }

        /** The sight of an OBSERVER in the ring of a sight, NONE without it. */
        private int ringed(int sight, int by) {
            int at = sight;
            for (int i = 0; i < size && has(at); i++) {
                if (observer[at] == by) {
                    return at;
                }
                at = beside[at] == sight ? NONE : beside[at];
            }
            return NONE;
        }

        private int open(int onNight, int ofStar, int inWay, int by) {
            if (size >= MAX_RECORDS) {
                return NONE;
            }
            int sight = size;
            size++;
            beside[sight] = sight;
            night[sight] = onNight;
            star[sight] = ofStar;
            way[sight] = inWay;
            observer[sight] = by;
            records[sight] = 0;
            threads[sight] = 0;
            reduced[sight] = 0;
            squares[sight] = 0;
            return sight;
        }

        /** Puts a new sight into the ring of the first one, or, without it, on its night. */
        private void join(int sight, int first) {
            if (!has(sight)) {
                return;
            }
            if (has(first)) {
                beside[sight] = beside[first];
                beside[first] = sight;
            } else if (isWithin(night[sight], 0, MAX_NIGHTS - 1)) {
                older[sight] = newest[night[sight]];
                newest[night[sight]] = sight;
            }
        }

        long mean(int sight) {
            boolean some = has(sight) && records[sight] > 0;
            return some ? Math.floorDiv(1000L * reduced[sight], (long) records[sight]) : 0;
        }

        boolean isBy(int sight, int by) {
            return has(sight) && observer[sight] == by;
        }

        boolean isFeigned(int sight) {
            return has(sight) && way[sight] == FEIGNED;
        }

        /** The sight of an OBSERVER that makes a MEETING with this one, NONE without it. */
        int met(int sight, int by) {
            return isFeigned(sight) ? NONE : ringed(sight, by);
        }

        /** The DIFFERENCE of two sights, were these their REDUCED together. */
        long lessMean(int one, long ofOne, int other, long ofOther) {
            if (!has(one) || !has(other)) {
                return 0;
            }
            long both = (long) records[one] * records[other];
            return both == 0 ? 0 : Math.floorDiv(1000 * (ofOne * records[other] - ofOther * records[one]), both);
        }

        long difference(int one, int other) {
            return has(one) && has(other) ? lessMean(one, reduced[one], other, reduced[other]) : 0;
        }

        /** How many DIFFERENCES are not 0, or, of these, above it. */
        int differences(int a, int b, boolean above) {
            int found = 0;
            for (int i = 0; i < size; i++) {
                int other = isBy(i, a) ? met(i, b) : NONE;
                if (other != NONE) {
                    long apart = difference(i, other);
                    found += apart > 0 || apart < 0 && !above ? 1 : 0;
                }
            }
            return found;
        }

        long scatterOf(int inWay) {
            long together = 0;
            long free = 0;
            for (int i = 0; i < size; i++) {
                if (Integer.bitCount(threads[i]) >= 2 && way[i] == inWay) {
                    long n = Math.max(1, records[i]);
                    long spread = n * squares[i] - (long) reduced[i] * reduced[i];
                    together += Math.floorDiv(1000 * spread, n);
                    free += n - 1;
                }
            }
            return free == 0 ? NO_ANSWER : Math.floorDiv(together, free);
        }
    }

    /** The MEETINGS of each OBSERVER with each other, both ways round: downwards, one is not the other's contrary. */
    private static final class Meetings {
        private final Tally[] tallies = new Tally[MAX_OBSERVERS * MAX_OBSERVERS];
        private final Tally nothing = new Tally();

        Meetings() {
            for (int i = 0; i < tallies.length; i++) {
                tallies[i] = new Tally();
            }
        }

        Tally of(int a, int b) {
            boolean there = a >= 0 && a < MAX_OBSERVERS && b >= 0 && b < MAX_OBSERVERS;
            return there ? tallies[a * MAX_OBSERVERS + b] : nothing;
        }

        void measure(Sights sights) {
            for (int i = 0; i < tallies.length; i++) {
                tallies[i].clear();
            }
            for (int i = 0; i < sights.size; i++) {
                if (!sights.isFeigned(i)) {
                    measureRing(sights, i);
                }
            }
        }

        private void measureRing(Sights sights, int sight) {
            int other = sights.beside[sight];
            for (int i = 0; i < sights.size && other != sight && sights.has(other); i++) {
                of(sights.observer[sight], sights.observer[other]).add(sights.difference(sight, other));
                other = sights.beside[other];
            }
        }

        boolean areMet(int a, int b) {
            return of(a, b).many > 0;
        }

        long width(int a, int b) {
            Tally met = of(a, b);
            return met.many == 0 ? 0 : met.span() + (1000 + met.many - 1) / met.many;
        }
    }

    /** The ROPES from all OBSERVERS to one of them, the goal. */
    private static final class Ropes {
        private static final long NO_ROPE = -1;
        // WIDTH and links in one number, WIDTH first: a rope has fewer links than this.
        private static final int LINKS = 32;

        private final long[] toll = new long[MAX_OBSERVERS];
        private final int[] onward = new int[MAX_OBSERVERS];
        private final long[] leaning = new long[MAX_OBSERVERS];

        void lead(Meetings meetings, int observers, int goal) {
            for (int i = 0; i < MAX_OBSERVERS; i++) {
                toll[i] = i == goal ? 0 : NO_ROPE;
                onward[i] = NONE;
                leaning[i] = 0;
            }
            boolean better = true;
            for (int i = 0; i < observers && better; i++) {
                better = shorten(meetings, observers);
            }
            for (int i = 0; i < observers; i++) {
                if (i != goal && reach(i)) {
                    onward[i] = firstOnward(meetings, observers, i);
                }
            }
            for (int i = 0; i < observers; i++) {
                leaning[i] = sumAlong(meetings, i);
            }
        }

        private long tollBy(Meetings meetings, int a, int b) {
            if (!reach(b) || !meetings.areMet(a, b)) {
                return NO_ROPE;
            }
            return toll[b] + meetings.width(a, b) * LINKS + 1;
        }

        private boolean shorten(Meetings meetings, int observers) {
            boolean better = false;
            for (int a = 0; a < observers && a < MAX_OBSERVERS; a++) {
                for (int b = 0; b < observers; b++) {
                    long by = tollBy(meetings, a, b);
                    if (by != NO_ROPE && (toll[a] == NO_ROPE || by < toll[a])) {
                        toll[a] = by;
                        better = true;
                    }
                }
            }
            return better;
        }

        private int firstOnward(Meetings meetings, int observers, int a) {
            for (int b = 0; b < observers; b++) {
                if (tollBy(meetings, a, b) == toll[a]) {
                    return b;
                }
            }
            return NONE;
        }

        private long sumAlong(Meetings meetings, int a) {
            long together = 0;
            int at = a;
            for (int i = 0; i < links(a) && isWithin(at, 0, MAX_OBSERVERS - 1); i++) {
                together += meetings.of(at, onward[at]).mean();
                at = onward[at];
            }
            return together;
        }

        boolean reach(int a) {
            return isWithin(a, 0, MAX_OBSERVERS - 1) && toll[a] != NO_ROPE;
        }

        int links(int a) {
            return reach(a) ? (int) (toll[a] % LINKS) : 0;
        }

        long width(int a) {
            return reach(a) ? toll[a] / LINKS : 0;
        }

        long lean(int a) {
            return reach(a) ? leaning[a] : 0;
        }

        int along(int a, int steps) {
            int at = a;
            for (int i = 0; i < steps && isWithin(at, 0, MAX_OBSERVERS - 1); i++) {
                at = onward[at];
            }
            return at;
        }
    }

    /** Who is TIED to whom: for each OBSERVER all that he is tied to, himself too, as bits. */
    private static final class Bonds {
        private int observers = 0;
        private final int[] met = new int[MAX_OBSERVERS];
        private final int[] fellows = new int[MAX_OBSERVERS];

        void begin(Meetings meetings, int size) {
            observers = Math.max(0, Math.min(size, MAX_OBSERVERS));
            for (int i = 0; i < observers; i++) {
                fellows[i] = 1 << i;
            }
            for (int a = 0; a < observers; a++) {
                for (int b = a + 1; b < observers; b++) {
                    if (meetings.areMet(a, b)) {
                        bind(a, b);
                    }
                }
            }
            System.arraycopy(fellows, 0, met, 0, observers);
        }

        private boolean isApart(int a, int b) {
            return isWithin(a, 0, observers - 1) && isWithin(b, 0, observers - 1) && fellows[a] != fellows[b];
        }

        private void bind(int a, int b) {
            if (!isApart(a, b)) {
                return;
            }
            int all = fellows[a] | fellows[b];
            for (int i = 0; i < observers; i++) {
                if ((all >> i & 1) == 1) {
                    fellows[i] = all;
                }
            }
        }

        int pairsWith(Table journeys, int set) {
            System.arraycopy(met, 0, fellows, 0, observers);
            for (int i = 0; i < journeys.size; i++) {
                if ((set >> i & 1) == 1) {
                    bind(journeys.at(i, ONE), journeys.at(i, OTHER));
                }
            }
            int ends = 0;
            for (int i = 0; i < observers; i++) {
                ends += Integer.bitCount(fellows[i]) - 1;
            }
            return ends / 2;
        }

        /** How many more pairs would be TIED with these two brought together: 0 if they are TIED. */
        int gain(int a, int b) {
            return isApart(a, b) ? Integer.bitCount(fellows[a]) * Integer.bitCount(fellows[b]) : 0;
        }
    }

    /** WORLDS of two OBSERVERS: the RECORDS of their MEETINGS, drawn anew. */
    private static final class Worlds {
        private Sights sights = null;
        private int a = NONE;
        private int b = NONE;
        private int taken = 0;
        private long x = 0;
        // The sight to which a record's number goes.
        private final int[] slots = new int[MAX_RECORDS];
        private final int[] leanings = new int[MAX_RECORDS];
        private final long[] sums = new long[MAX_RECORDS];
        private final Tally apart = new Tally();

        void begin(Sights gathered, int one, int other) {
            sights = gathered;
            a = one;
            b = other;
            taken = 0;
        }

        void take(int record, int lean) {
            if (sights == null || taken >= MAX_RECORDS || !isWithin(record, 0, MAX_RECORDS - 1)) {
                return;
            }
            int sight = sights.sightOf[record];
            boolean met = sights.isBy(sight, a) && sights.met(sight, b) != NONE
                || sights.isBy(sight, b) && sights.met(sight, a) != NONE;
            if (met) {
                slots[taken] = sight;
                leanings[taken] = lean;
                taken++;
            }
        }

        boolean areMet() {
            return taken > 0;
        }

        int draw(int seed, int slip, int n) {
            x = seed;
            int above = 0;
            for (int i = 0; i < n; i++) {
                drawWorld(slip);
                above += apartMean() > 0 ? 1 : 0;
            }
            return above;
        }

        private void drawWorld(int slip) {
            for (int i = 0; i < sums.length; i++) {
                sums[i] = 0;
            }
            for (int i = 0; i < taken; i++) {
                x = (x * 1103515245L + 12345L) % 2147483648L;
                // The pace of the thread is put on the TENTH and taken off again by REDUCED.
                sums[slots[i]] += leanings[i] + x / 65536 % (2 * slip + 1) - slip;
            }
        }

        private long apartMean() {
            apart.clear();
            for (int i = 0; sights != null && i < sights.size; i++) {
                int other = sights.isBy(i, a) ? sights.met(i, b) : NONE;
                if (other != NONE) {
                    apart.add(sights.lessMean(i, sums[i], other, sums[other]));
                }
            }
            return apart.mean();
        }
    }
}
