import java.util.ArrayList;
import java.util.Arrays;
import java.util.List;
import java.util.function.IntToLongFunction;
import java.util.function.Supplier;
import java.util.function.ToLongFunction;

/** Holds the program against the document sentence by sentence: which one is being held, and what was due there. */
final class Edge {
    private final Doc doc = new Doc();
    private String section = "";
    private String sentence = "";
    private int right = 0;
    private int wrong = 0;
    private int sentences = 0;
    private final List<String> broken = new ArrayList<>();

    /** From here on it is this sentence of this section of the document that answers are held against. */
    void of(String section, String sentence) {
        settle();
        this.section = section;
        this.sentence = sentence;
        String why = doc.quote(section, sentence);
        if (!why.isEmpty()) {
            broken.add(section + ", \"" + sentence + "\": " + why);
        }
    }

    void promise(int number, String sentence) {
        of("Promise " + number, sentence);
    }

    void term(String number, String sentence) {
        of("Term " + number, sentence);
    }

    private void settle() {
        if (section.isEmpty()) {
            return;
        }
        String name = section + ", \"" + sentence + "\"";
        sentences++;
        System.out.println((wrong == 0 ? "  holds: " : "  BROKEN: ") + name + " (" + (right + wrong) + ")");
        if (wrong > 0) {
            broken.add(name);
        }
        if (right + wrong == 0) {
            broken.add(name + ": nothing was held against it");
        }
        right = 0;
        wrong = 0;
        section = "";
    }

    void is(String call, long got, long want) {
        if (got == want) {
            right++;
        } else {
            wrong++;
            System.out.println(section + ": " + call + " answered " + got + ", due is " + want);
        }
    }

    void is(String call, boolean got, boolean want) {
        is(call, got ? 1 : 0, want ? 1 : 0);
    }

    /** Numbers about a range's ends, on both sides of each, and as far off as numbers go. */
    static int[] about(int least, int greatest) {
        long[] all = {Integer.MIN_VALUE, least - 1L, least, least + 1L, ((long) least + greatest) / 2, greatest - 1L,
            greatest, greatest + 1L, Integer.MAX_VALUE};
        return Arrays.stream(all).filter(n -> n == (int) n).mapToInt(n -> (int) n).distinct().toArray();
    }

    /** All numbers from the least to the greatest answer what is due to them, all others what is due to none. */
    void range(String call, int least, int greatest, IntToLongFunction answer, long taken, long refused) {
        for (int n : about(least, greatest)) {
            is(call + " with " + n, answer.applyAsLong(n), n >= least && n <= greatest ? taken : refused);
        }
    }

    /** As range(), where those that are taken have unlike answers, none of them that of a refused one. */
    void range(String call, int least, int greatest, IntToLongFunction answer, long refused) {
        for (int n : about(least, greatest)) {
            boolean taken = answer.applyAsLong(n) != refused;
            is(call + " with " + n + " is taken", taken, n >= least && n <= greatest);
        }
    }

    /**
     * Two objects with the same calls, of which one has a call more: it answers what is due, and whatever is asked
     * or done then is answered by both alike.
     */
    void nothing(String call, Supplier<Calls> before, ToLongFunction<Calls> refused, long want) {
        Calls x = before.get();
        Calls y = before.get();
        is(call, refused.applyAsLong(x), want);
        sameLater(call, x, y);
    }

    void sameLater(String call, Calls x, Calls y) {
        // The one has a call more than the other, and as many are left as that one may make.
        int most = Calls.MOST - Math.max(x.made(), y.made());
        List<String> one = Look.at(x, most);
        List<String> other = Look.at(y, most);
        int unlike = 0;
        for (int i = 0; i < Math.min(one.size(), other.size()); i++) {
            if (!one.get(i).equals(other.get(i))) {
                unlike++;
                if (unlike == 1) {
                    System.out.println(section + ": after " + call + " " + one.get(i) + ", without it " + other.get(i));
                }
            }
        }
        is("calls answered otherwise after " + call, unlike + Math.abs(one.size() - other.size()), 0);
    }

    void close(String test) {
        settle();
        broken.addAll(doc.unquoted());
        for (String told : broken) {
            System.out.println("NOT HELD: " + told);
        }
        System.out.println(test + ": " + sentences + " sentences held, " + broken.size() + " not");
        if (!broken.isEmpty()) {
            System.exit(1);
        }
    }
}
