import java.util.ArrayList;
import java.util.Arrays;
import java.util.List;
import java.util.Random;

/** Long runs of calls, drawn by fixed seeds, on EachLater and on Plain: each answer must be the same. */
public final class FuzzTest {
    private static final int CALLS = 512;
    private static final Due DUE = new Due();

    private final Random draw;
    private final EachLater x = new EachLater();
    private final Plain y = new Plain();
    private final int observers;
    private final int stars;
    private final int nights;
    private final int wild;
    private final boolean smallTenths;
    private int calls = 0;
    private final List<String> told = new ArrayList<>();
    private boolean failed = false;

    private FuzzTest(long seed) {
        draw = new Random(seed);
        observers = 1 + draw.nextInt(draw.nextInt(3) == 0 ? 18 : 6);
        stars = 1 + draw.nextInt(draw.nextInt(3) == 0 ? 26 : 3);
        nights = 1 + draw.nextInt(draw.nextInt(3) == 0 ? 85 : 5);
        wild = draw.nextInt(4) == 0 ? 10 : 60;
        smallTenths = draw.nextBoolean();
    }

    public static void main(String[] args) {
        int runs = args.length > 0 ? Integer.parseInt(args[0]) : 300;
        long first = args.length > 1 ? Long.parseLong(args[1]) : 1;
        for (long seed = first; seed < first + runs; seed++) {
            new FuzzTest(seed).run(seed);
        }
        DUE.close("FuzzTest");
    }

    private void run(long seed) {
        int records = draw.nextInt(3) == 0 ? 380 : draw.nextInt(200);
        for (int i = 0; i < observers; i++) {
            call(2);
        }
        for (int i = 0; i < stars; i++) {
            call(3);
        }
        for (int i = 0; i < nights; i++) {
            if (draw.nextInt(3) == 0) {
                call(1);
            }
            call(4);
        }
        for (int i = 0; i < records && !failed; i++) {
            call(5);
            if (draw.nextInt(12) == 0) {
                call(draw.nextBoolean() ? 1 : 6);
            }
        }
        while (calls < CALLS && !failed) {
            call(1 + draw.nextInt(32));
        }
        if (failed) {
            System.out.println("seed " + seed + ", the last calls: "
                + told.subList(Math.max(0, told.size() - 5), told.size()));
        }
    }

    private static final int[] EDGES = {-2147483648, -2, -1, 0, 1, 2, 15, 16, 99, 100, 9999, 10000, 2147483647};

    /** One of so many, now and then a number that is none of them. */
    private int of(int n) {
        return draw.nextInt(wild) == 0 ? EDGES[draw.nextInt(EDGES.length)] : draw.nextInt(Math.max(1, n));
    }

    private int anObserver() {
        return of(y.count(1));
    }

    private int aWeek() {
        return draw.nextInt(3) > 0 ? of(y.count(0) + 2) : y.count(0);
    }

    private void same(String call, long got, long want, int... numbers) {
        String name = call + Arrays.toString(numbers);
        told.add(name + " = " + want);
        calls++;
        failed |= got != want;
        DUE.is(name, got, want);
    }

    private static long one(boolean answer) {
        return answer ? 1 : 0;
    }

    private void call(int which) {
        if (calls >= CALLS || failed) {
            return;
        }
        if (which <= 7) {
            callBook(which);
        } else if (which <= 12) {
            callLaws(which);
        } else if (which <= 16) {
            callRopes(which);
        } else if (which <= 23) {
            callOwn(which);
        } else {
            callRest(which);
        }
    }

    private void callBook(int which) {
        int a;
        int b;
        switch (which) {
            case 1:
                a = of(20) == 0 ? of(10001) : y.count(0) + of(30);
                same("clock", one(x.clock(a)), y.clock(a), a);
                break;
            case 2:
                a = of(15002) - 5001;
                same("observer", x.observer(a), y.observer(a), a);
                break;
            case 3:
                a = of(10);
                b = 1 + of(smallTenths ? 3 : 99);
                int side = of(2);
                same("star", x.star(a, b, side), y.star(a, b, side), a, b, side);
                break;
            case 4:
                a = of(4);
                b = draw.nextBoolean() ? y.count(0) : of(y.count(0) + 1);
                same("night", x.night(a, b), y.night(a, b), a, b);
                break;
            case 5:
                record();
                break;
            case 6:
                a = of(y.count(4));
                same("strike", one(x.strike(a)), y.strike(a), a);
                break;
            default:
                int o = anObserver();
                int n = of(y.count(3));
                int s = of(y.count(2));
                int w = of(5);
                int k = aWeek();
                a = of(2);
                same("seen", x.seen(o, n, s, w, k, a), y.seen(o, n, s, w, k, a), o, n, s, w, k, a);
                break;
        }
    }

    private void record() {
        int n = of(y.count(3));
        int s = of(y.count(2));
        int th = of(5);
        int o = anObserver();
        int w = of(draw.nextBoolean() ? 5 : 2);
        int tenth = of(smallTenths ? 5 : 10000);
        int truth = w == 3 ? of(smallTenths ? 5 : 10000) : of(200) == 0 ? 0 : -1;
        same("record", x.record(n, s, th, o, w, tenth, truth), y.record(n, s, th, o, w, tenth, truth),
            n, s, th, o, w, tenth, truth);
    }

    private void callLaws(int which) {
        int a;
        switch (which) {
            case 8:
                int[] f = {draw.nextInt(), of(9), draw.nextInt(), 0x6c65616e, 0x20313233};
                same("feed", x.feed(f[0], f[1], f[2], f[3], f[4]), y.feed(f), f);
                break;
            case 9:
                a = of(y.count(7) + 2);
                same("end", x.end(a), y.end(a), a);
                break;
            case 10:
            case 11:
                law(LawTexts.draw(draw));
                break;
            default:
                a = of(y.count(5));
                int r = of(y.count(4));
                same("gives", x.gives(a, r), y.gives(a, r), a, r);
                break;
        }
    }

    private void law(String text) {
        // a text of 400 bytes takes twenty feeds and four calls more, and behind the 512th nothing is promised
        if (calls + 24 > CALLS) {
            return;
        }
        if (draw.nextInt(5) > 0) {
            same("end", x.end(0), y.end(0), 0);
            for (int from = 0; from < text.length(); from += 20) {
                int[] f = new int[5];
                for (int i = 0; i < 20; i++) {
                    f[i / 4] = f[i / 4] << 8 | (from + i < text.length() ? text.charAt(from + i) : 0);
                }
                same("feed", x.feed(f[0], f[1], f[2], f[3], f[4]), y.feed(f), f);
            }
            same("end", x.end(text.length()), y.end(text.length()), text.length());
        }
        same("law " + text, x.law(), y.law());
        same("count", x.count(7), y.count(7), 7);
    }

    private void callRopes(int which) {
        int a = anObserver();
        int b = anObserver();
        int k = aWeek();
        int w = of(4);
        switch (which) {
            case 13:
                same("two", x.two(a, b, k, w), y.two(a, b, k, w), a, b, k, w);
                break;
            case 14:
                same("rope", x.rope(a, b, k, w), y.rope(a, b, k, w), a, b, k, w);
                break;
            case 15:
                same("knot", x.knot(a, b, k, w), y.knot(a, b, k, w), a, b, k, w);
                break;
            default:
                same("far", x.far(a, k), y.far(a, k), a, k);
                break;
        }
    }

    private void callOwn(int which) {
        int o = anObserver();
        int k = aWeek();
        int w = of(2);
        int l = of(y.count(5));
        switch (which) {
            case 17:
                int year = of(y.count(0) / 52 + 3) - 1;
                w = of(3);
                same("own", x.own(o, year, k, w), y.own(o, year, k, w), o, year, k, w);
                break;
            case 18:
                same("left", x.left(o, l, k), y.left(o, l, k), o, l, k);
                break;
            case 19:
                int p = of(901);
                same("best", x.best(o, k, p, w), y.best(o, k, p, w), o, k, p, w);
                break;
            case 20:
                w = of(5);
                same("scatter", x.scatter(w, k), y.scatter(w, k), w, k);
                break;
            case 21:
                same("finest", x.finest(k), y.finest(k), k);
                break;
            case 22:
                int n = of(y.count(3));
                int s = of(y.count(2));
                int way = of(5);
                int z = anObserver();
                same("moved", x.moved(o, n, s, way, z, k, w), y.moved(o, n, s, way, z, k, w), o, n, s, way, z, k, w);
                break;
            default:
                int g = of(4);
                int h = of(4);
                same("longitude", x.longitude(g, h, k, w), y.longitude(g, h, k, w), g, h, k, w);
                break;
        }
    }

    private void callRest(int which) {
        int a = anObserver();
        int b = anObserver();
        int w = of(which == 26 ? 3 : 2);
        switch (which) {
            case 24:
                int weeks = 1 + of(smallTenths ? 3 : 99);
                same("journey", x.journey(a, b, weeks), y.journey(a, b, weeks), a, b, weeks);
                break;
            case 25:
                int set = of(1 << y.count(6));
                same("tied", x.tied(set), y.tied(set), set);
                break;
            case 26:
                int time = of(draw.nextBoolean() ? 12 : 1000);
                same("plan", x.plan(time, w), y.plan(time, w), time, w);
                break;
            case 27:
                same("next", x.next(), y.next());
                break;
            case 28:
                int k = aWeek();
                same("said", x.said(a, b, k, w), y.said(a, b, k, w), a, b, k, w);
                break;
            case 29:
                int l = of(y.count(5) + 1) - 1;
                same("leans", one(x.leans(a, l)), y.leans(a, l), a, l);
                break;
            case 30:
                int seed = draw.nextInt() & 2147483647;
                int slip = of(draw.nextBoolean() ? 4 : 100);
                int n = 1 + of(50);
                same("later", x.later(a, b, seed, slip, n), y.later(a, b, seed, slip, n), a, b, seed, slip, n);
                break;
            default:
                marks();
                break;
        }
    }

    private void marks() {
        int k = of(4);
        int what = of(8);
        if (draw.nextInt(3) == 0) {
            same("mark", x.mark(k), y.mark(k), k);
        } else if (draw.nextInt(6) == 0) {
            same("back", x.back(k), y.back(k), k);
        } else {
            same("count", x.count(what), y.count(what), what);
        }
    }
}
