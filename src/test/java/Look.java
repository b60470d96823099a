import java.util.ArrayList;
import java.util.List;
import java.util.function.LongSupplier;

/** What later calls answer: questions about all that there is, then changes, then each mark gone back to. */
final class Look {
    // As many calls as the marks take at the end.
    private static final int FOR_MARKS = 36;

    private final Calls x;
    private final int most;
    private final List<String> told = new ArrayList<>();

    private Look(Calls x, int most) {
        this.x = x;
        this.most = most;
    }

    /** The answers to at most so many calls: the same calls for two objects that answer alike. */
    static List<String> at(Calls x, int most) {
        Look look = new Look(x, most);
        look.counts();
        look.questions();
        look.changes();
        look.wide();
        look.marks();
        return look.told;
    }

    private long ask(String call, LongSupplier answer) {
        if (told.size() >= most) {
            return 0;
        }
        long got = answer.getAsLong();
        told.add(call + " = " + got);
        return got;
    }

    private static long one(boolean answer) {
        return answer ? 1 : 0;
    }

    private int now() {
        return (int) ask("count 0", () -> x.count(0));
    }

    private void counts() {
        for (int what = 0; what < 8; what++) {
            int w = what;
            ask("count " + w, () -> x.count(w));
        }
    }

    private void questions() {
        int now = now();
        for (int known : new int[] {now, Math.max(0, now - 1), 0}) {
            for (int observer = 0; observer < 2; observer++) {
                int o = observer;
                ask("seen of " + o + " known in " + known, () -> x.seen(o, 0, 0, 0, known, 1));
            }
            ask("two known in " + known, () -> x.two(0, 1, known, 1));
        }
        for (int what = 0; what < 3; what++) {
            int w = what;
            ask("rope " + w, () -> x.rope(0, 2, now, w));
            ask("own " + w, () -> x.own(0, -1, now, w));
            ask("plan " + w, () -> x.plan(50, w));
            ask("gives by " + w, () -> x.gives(w, 0));
        }
        ask("far", () -> x.far(0, now));
        ask("left", () -> x.left(0, 0, now));
        ask("best", () -> x.best(0, now, 100, 0));
        ask("still", () -> x.best(0, now, 100, 1));
        ask("scatter", () -> x.scatter(0, now));
        ask("finest", () -> x.finest(now));
        ask("moved", () -> x.moved(0, 0, 0, 0, 1, now, 0));
        ask("longitude", () -> x.longitude(0, 1, now, 0));
        ask("tied", () -> x.tied(0));
        ask("next", x::next);
        ask("said", () -> x.said(0, 1, now, 0));
        ask("later", () -> x.later(0, 1, 7, 9, 20));
    }

    private void changes() {
        ask("law of the tape", x::law);
        int laws = (int) ask("count 5", () -> x.count(5));
        ask("gives by the last law", () -> x.gives(laws - 1, 0));
        ask("observer", () -> x.observer(5));
        ask("star", () -> x.star(1, 7, 1));
        ask("night", () -> x.night(1, 0));
        ask("record", () -> x.record(0, 0, 1, 0, 1, 77, -1));
        ask("journey", () -> x.journey(0, 1, 3));
        ask("feed", () -> x.feed(1, 2, 3, 4, 5));
        ask("end", () -> x.end(7));
        ask("leans", () -> one(x.leans(1, 0)));
        ask("later behind that", () -> x.later(1, 0, 7, 9, 20));
        int later = now() + 1;
        ask("clock", () -> one(x.clock(later)));
        ask("strike", () -> one(x.strike(0)));
        counts();
    }

    private boolean isLeft(int calls) {
        return told.size() + calls + FOR_MARKS <= most;
    }

    private void wide() {
        int now = now();
        int[] weeks = {now, Math.max(0, now - 1), Math.max(0, now - 2), now / 2, 1, 0, 9999};
        for (int i = 0; i < weeks.length && isLeft(24); i++) {
            int known = weeks[i];
            for (int way = 0; way < 5; way++) {
                int w = way;
                ask("scatter of " + w + " known in " + known, () -> x.scatter(w, known));
                ask("seen in " + w + " known in " + known, () -> x.seen(0, 0, 0, w, known, 1));
            }
            for (int other = 1; other < 4; other++) {
                int o = other;
                ask("lean to " + o + " known in " + known, () -> x.rope(0, o, known, 1));
                ask("width from " + o + " known in " + known, () -> x.rope(o, 0, known, 2));
                ask("own of " + o + " known in " + known, () -> x.own(o, -1, known, 1));
                ask("two with " + o + " known in " + known, () -> x.two(0, o, known, 3));
            }
            ask("longitude known in " + known, () -> x.longitude(0, 1, known, 1));
            ask("said known in " + known, () -> x.said(0, 1, known, 0));
        }
        for (int law = 0; law < 3 && isLeft(5); law++) {
            for (int record = 0; record < 5; record++) {
                int l = law;
                int r = record;
                ask("law " + l + " gives " + r, () -> x.gives(l, r));
            }
        }
        for (int record = 0; record < 30 && isLeft(1); record++) {
            int r = record;
            ask("strike " + r, () -> one(x.strike(r)));
        }
    }

    private void marks() {
        for (int mark = 0; mark < 4; mark++) {
            int k = mark;
            ask("back " + k, () -> x.back(k));
            ask("two behind back " + k, () -> x.two(0, 1, 9999, 1));
            ask("later behind back " + k, () -> x.later(0, 1, 5, 9, 20));
            for (int what = 1; what < 7; what += what == 4 ? 2 : 1) {
                int w = what;
                ask("count " + w + " behind back " + k, () -> x.count(w));
            }
        }
    }
}
