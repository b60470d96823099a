import java.util.ArrayList;
import java.util.List;
import java.util.Map;

/** A law read rule by rule, each rule of the document's grammar a method, a tree of small functions its outcome. */
final class PlainLaw {
    interface Sum {
        long of(Map<String, Long> words);
    }

    interface Test {
        boolean of(Map<String, Long> words);
    }

    record Clause(Sum sum, Test test) { }

    private static final class Fault extends RuntimeException {
        private static final long serialVersionUID = 1L;
        final int number;

        Fault(int place, int which) {
            super(null, null, false, false);
            number = 1 + 8 * place + which;
        }
    }

    private static final List<String> WORDS =
        List.of("bright", "pace", "side", "star", "thread", "way", "week", "year", "house", "age");

    int fault = 0;
    private final List<Clause> clauses = new ArrayList<>();
    private final String text;
    private int at = 0;
    private int parts = 0;

    PlainLaw(List<Integer> bytes) {
        StringBuilder all = new StringBuilder();
        for (int b : bytes) {
            all.append((char) b);
        }
        text = all.toString();
        try {
            law();
        } catch (Fault f) {
            fault = f.number;
        }
    }

    long give(Map<String, Long> words) {
        for (Clause c : clauses) {
            if (c.test() == null || c.test().of(words)) {
                return c.sum().of(words);
            }
        }
        return 0;
    }

    /** What stands next, without taking it: a word, a number, a sign, or nothing at the end. */
    private String ahead() {
        while (at < text.length() && text.charAt(at) == ' ') {
            at++;
        }
        String rest = text.substring(at);
        for (String form : List.of("[a-z]+", "[0-9]+", "<=|>=")) {
            java.util.regex.Matcher m = java.util.regex.Pattern.compile(form).matcher(rest);
            if (m.lookingAt()) {
                return m.group();
            }
        }
        return rest.isEmpty() ? "" : rest.substring(0, 1);
    }

    private boolean take(String sign) {
        if (!ahead().equals(sign)) {
            return false;
        }
        at += sign.length();
        return true;
    }

    private Fault stands() {
        ahead();
        return new Fault(at, 0);
    }

    private void law() {
        do {
            clause();
        } while (take(";"));
        if (!ahead().isEmpty()) {
            throw stands();
        }
    }

    private void clause() {
        if (!ahead().equals("lean")) {
            throw stands();
        }
        if (clauses.size() == 12) {
            throw new Fault(at, 4);
        }
        take("lean");
        Sum sum = sum();
        clauses.add(new Clause(sum, take("if") ? test(0) : null));
    }

    private Test test(int deep) {
        Test left = part(deep);
        while (take("or")) {
            Test a = left;
            Test b = part(deep);
            left = w -> a.of(w) || b.of(w);
        }
        return left;
    }

    private Test part(int deep) {
        Test left = fact(deep);
        while (take("and")) {
            Test a = left;
            Test b = fact(deep);
            left = w -> a.of(w) && b.of(w);
        }
        return left;
    }

    private Test fact(int deep) {
        String next = ahead();
        if (next.equals("not") || next.equals("[")) {
            if (deep == 10) {
                throw new Fault(at, 2);
            }
            take(next);
            if (next.equals("not")) {
                Test a = fact(deep + 1);
                return w -> !a.of(w);
            }
            Test a = test(deep + 1);
            if (!take("]")) {
                throw stands();
            }
            return a;
        }
        Sum a = sum();
        String sign = ahead();
        if (!List.of("<", "<=", "=", ">=", ">").contains(sign)) {
            throw stands();
        }
        onePartMore();
        take(sign);
        Sum b = sum();
        return switch (sign) {
            case "<" -> w -> a.of(w) < b.of(w);
            case "<=" -> w -> a.of(w) <= b.of(w);
            case "=" -> w -> a.of(w) == b.of(w);
            case ">=" -> w -> a.of(w) >= b.of(w);
            default -> w -> a.of(w) > b.of(w);
        };
    }

    private void onePartMore() {
        parts++;
        if (parts > 60) {
            throw new Fault(at, 3);
        }
    }

    private Sum sum() {
        Sum left = term();
        while (true) {
            Sum a = left;
            if (take("+")) {
                Sum b = term();
                left = w -> a.of(w) + b.of(w);
            } else if (take("-")) {
                Sum b = term();
                left = w -> a.of(w) - b.of(w);
            } else {
                return left;
            }
        }
    }

    private Sum term() {
        Sum left = value();
        while (take("*")) {
            Sum a = left;
            Sum b = value();
            left = w -> a.of(w) * b.of(w);
        }
        return left;
    }

    private Sum value() {
        String next = ahead();
        boolean number = !next.isEmpty() && Character.isDigit(next.charAt(0)) && next.charAt(0) < 128;
        if (!number && !WORDS.contains(next)) {
            throw stands();
        }
        if (number && next.length() > 5) {
            throw new Fault(at, 1);
        }
        onePartMore();
        take(next);
        return number ? w -> Long.parseLong(next) : w -> w.get(next);
    }
}
