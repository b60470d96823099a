import java.util.Random;

/** Texts that are laws, or nearly. */
final class LawTexts {
    private static final String[] WORDS =
        {"bright", "pace", "side", "star", "thread", "way", "week", "year", "house", "age"};
    private static final String[] SIGNS = {"<", "<=", "=", ">=", ">"};
    private static final String[] ALL = {"lean", "if", "or", "and", "not", "[", "]", ";", "+", "-", "*", "<", "<=", "=",
        ">=", ">", "1", "12345", "123456", "age", "ages", " ", "A", "\u00e9", "\u0000"};

    private LawTexts() {
    }

    static String draw(Random draw) {
        StringBuilder text = new StringBuilder();
        int kind = draw.nextInt(12);
        if (kind == 0) {
            for (int i = draw.nextInt(30); i >= 0; i--) {
                text.append(ALL[draw.nextInt(ALL.length)]).append(draw.nextBoolean() ? " " : "");
            }
        } else {
            int clauses = kind == 1 ? 10 + draw.nextInt(5) : 1 + draw.nextInt(3);
            for (int i = 0; i < clauses; i++) {
                text.append(i == 0 ? "" : blank(draw) + ";" + blank(draw));
                clause(draw, text, kind);
            }
        }
        if (draw.nextInt(4) == 0) {
            spoil(draw, text);
        }
        return text.length() > 400 ? text.substring(0, 400) : text.toString();
    }

    private static void spoil(Random draw, StringBuilder text) {
        int at = draw.nextInt(text.length() + 1);
        switch (draw.nextInt(3)) {
            case 0:
                text.insert(at, ALL[draw.nextInt(ALL.length)]);
                break;
            case 1:
                text.setLength(at);
                break;
            default:
                text.delete(at, Math.min(text.length(), at + 1 + draw.nextInt(3)));
                break;
        }
    }

    private static String blank(Random draw) {
        return draw.nextInt(3) == 0 ? "" : draw.nextInt(9) == 0 ? "   " : " ";
    }

    private static void clause(Random draw, StringBuilder text, int kind) {
        text.append("lean ");
        sum(draw, text, kind == 2 ? 20 : 3, true);
        if (draw.nextInt(4) > 0) {
            text.append(" if ");
            test(draw, text, kind == 3 ? 12 : 3, kind == 4 ? 8 : 2);
        }
    }

    private static void sum(Random draw, StringBuilder text, int most, boolean great) {
        for (int i = draw.nextInt(most); i >= 0; i--) {
            if (draw.nextBoolean()) {
                text.append(WORDS[draw.nextInt(WORDS.length)]);
            } else {
                text.append(draw.nextInt(great ? 100000 : 6));
            }
            text.append(blank(draw)).append(i == 0 ? "" : "+-*".charAt(draw.nextInt(3))).append(blank(draw));
        }
    }

    private static void test(Random draw, StringBuilder text, int deep, int most) {
        for (int i = draw.nextInt(most); i >= 0; i--) {
            fact(draw, text, deep, most);
            text.append(i == 0 ? "" : draw.nextBoolean() ? " and " : " or ");
        }
    }

    private static void fact(Random draw, StringBuilder text, int deep, int most) {
        int kind = draw.nextInt(deep > 5 ? 12 : 5);
        if (deep > 0 && kind != 0) {
            if (kind % 2 == 0) {
                text.append("not ");
                fact(draw, text, deep - 1, most);
                return;
            }
            if (kind % 4 == 1 || deep > 5) {
                text.append("[");
                test(draw, text, deep - 1, deep > 5 ? 1 : most);
                text.append("]").append(blank(draw));
                return;
            }
        }
        sum(draw, text, 2, draw.nextInt(5) == 0);
        text.append(SIGNS[draw.nextInt(SIGNS.length)]).append(blank(draw));
        sum(draw, text, 2, draw.nextInt(5) == 0);
    }
}
