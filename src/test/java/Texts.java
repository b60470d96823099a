/** Puts texts on the tape of an object. */
final class Texts {
    private Texts() {
    }

    /** Feeds a text of at most 400 bytes behind an empty tape and cuts what the last twenty bytes are too many. */
    static void feed(EachLater x, String text) {
        for (int from = 0; from < text.length(); from += 20) {
            int[] numbers = new int[5];
            for (int i = 0; i < 20; i++) {
                int sign = from + i < text.length() ? text.charAt(from + i) & 255 : 0;
                numbers[i / 4] = numbers[i / 4] << 8 | sign;
            }
            x.feed(numbers[0], numbers[1], numbers[2], numbers[3], numbers[4]);
        }
        x.end(text.length());
    }

    static int law(EachLater x, String text) {
        feed(x, text);
        return x.law();
    }

    /** What law() answers for a fault at a place. */
    static int fault(int place, int which) {
        return -2 - (1 + 8 * place + which);
    }

    static String times(String text, int n) {
        StringBuilder all = new StringBuilder();
        for (int i = 0; i < n; i++) {
            all.append(text);
        }
        return all.toString();
    }
}
