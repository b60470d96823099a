/** Term II: laws, their language, their faults, what they give. */
final class TermTwo {
    // 2 to the 63rd, which goes round to the least of all numbers of 64 bits.
    private static final String ROUND = "32768*65536*65536*65536";

    private TermTwo() {
    }

    static void hold(Edge e) {
        lawNumbers(e);
        bytes(e);
        clauses(e);
        clause(e);
        testsAndParts(e);
        facts(e);
        signs(e);
        sums(e);
        numbers(e);
        words(e);
        starsWords(e);
        nightsWords(e);
        age(e);
        digits(e);
        blanks(e);
        depth(e);
        parts(e);
        faultsAlongTheText(e);
        faultOfWords(e);
        faultOfEveryByte(e);
        faultOfDigits(e);
        faultOfDepth(e);
        faultOfParts(e);
        faultOfClauses(e);
        leastOfOnePlace(e);
        firstClause(e);
        goingRound(e);
        held(e);
        without(e);
    }

    static void fits(Edge e, String text) {
        e.is("a law: " + text, new Calls().law(text), 0);
    }

    static void fails(Edge e, String text, int place, int which) {
        e.is("no law: " + text, new Calls().law(text), -2 - (1 + 8 * place + which));
    }

    static void gives(Edge e, String text, long want) {
        Calls x = Worlds.oneOfEach();
        x.sees(0, 0, 0, 0);
        e.is("a law: " + text, x.law(text), 0);
        e.is("what it gives: " + text, x.gives(0, 0), want);
    }

    private static String times(String text, int n) {
        return text.repeat(n);
    }

    private static void lawNumbers(Edge e) {
        e.term("II", "LAWS 0 to 9");
        Calls x = Worlds.oneOfEach();
        x.feigns(0, 0, 0, 1, 0);
        for (int i = 0; i < 10; i++) {
            e.is("law " + i, x.law("lean " + i), i);
        }
        e.is("the eleventh", x.law("lean 1"), -1);
        e.is("how many", x.count(5), 10);
        for (int n : new int[] {1, 9, 10}) {
            String of = " of " + n + " laws";
            e.range("gives" + of, 0, n - 1, law -> Worlds.withLaws(n).gives(law, 0), -1000000);
            e.range("left" + of, 0, n - 1, law -> Worlds.withLaws(n).left(0, law, 0), -1);
            e.range("leans, or NONE" + of, -1, n - 1, law -> Worlds.withLaws(n).leans(0, law) ? 1 : 0, 1, 0);
        }
        Calls ten = Worlds.withLaws(10);
        for (int i = 0; i < 10; i++) {
            e.is("law " + i + " of ten gives", ten.gives(i, 0), i);
        }
        e.is("the tenth is left", ten.left(0, 9, 0), 991L * 991L);
    }

    private static void bytes(Edge e) {
        e.term("II", "texts of at most 400 bytes.");
        for (int n : new int[] {6, 7, 398, 399, 400}) {
            gives(e, "lean" + times(" ", n - 5) + "7", 7);
            gives(e, "lean 8" + times(" ", n - 6), 8);
            fails(e, "lean" + times(" ", n - 5) + "x", n - 1, 0);
            fails(e, "lean" + times(" ", n - 4), n, 0);
        }
        Calls x = new Calls().fed("lean" + times(" ", 396));
        e.is("400 bytes, and more", x.feed(0x31202020, 0, 0, 0, 0), -1);
        e.is("they are 400 still", x.law(), -2 - (1 + 8 * 400));
        gives(e, "lean 1" + times("0", 4) + times("-1", 58) + times(" ", 267) + ";lean 7", 9942);
    }

    private static void clauses(Edge e) {
        e.term("II", "CLAUSE { ; CLAUSE }, 12 at most.");
        fails(e, "", 0, 0);
        fits(e, "lean 1");
        fits(e, "lean 1" + times(";lean 1", 10));
        fits(e, "lean 1" + times(";lean 1", 11));
        fails(e, "lean 1" + times(";lean 1", 12), 84, 4);
        fits(e, "lean 1 if 1=1" + times(";lean 1 if 1=1", 11));
        fails(e, "lean 1 if 1=1" + times(";lean 1 if 1=1", 12), 168, 4);
        fails(e, "lean 1;", 7, 0);
        fails(e, ";lean 1", 0, 0);
        fails(e, "lean 1;;lean 1", 7, 0);
    }

    private static void clause(Edge e) {
        e.term("II", "CLAUSE: lean SUM [ if TEST ].");
        fits(e, "lean 1");
        fits(e, "lean 1 if 1=1");
        fails(e, "lean", 4, 0);
        fails(e, "lean if 1=1", 5, 0);
        fails(e, "lean 1 if", 9, 0);
        fails(e, "lean 1 1=1", 7, 0);
        fails(e, "lean 1 if 1=1 if 1=1", 14, 0);
        fails(e, "lean lean 1", 5, 0);
        fails(e, "1", 0, 0);
        fails(e, "if 1=1", 0, 0);
        // the brackets of the rule are no signs
        fails(e, "lean 1 [ if 1=1 ]", 7, 0);
    }

    private static void testsAndParts(Edge e) {
        e.term("II", "TEST: PART { or PART }.");
        gives(e, "lean 5 if 1=1", 5);
        gives(e, "lean 5 if 1=2 or 1=1", 5);
        gives(e, "lean 5 if 1=2 or 1=2 or 1=1", 5);
        gives(e, "lean 5 if 1=2 or 1=2 or 1=2", 0);
        gives(e, "lean 5 if 1=1 or 1=2 and 1=2", 5);
        fails(e, "lean 5 if or 1=1", 10, 0);
        fails(e, "lean 5 if 1=1 or", 16, 0);
        fails(e, "lean 5 if 1=1 or or 1=1", 17, 0);
        e.term("II", "PART: FACT { and FACT }.");
        gives(e, "lean 5 if 1=1 and 1=1", 5);
        gives(e, "lean 5 if 1=1 and 1=1 and 1=2", 0);
        gives(e, "lean 5 if 1=2 and 1=1", 0);
        gives(e, "lean 5 if 1=2 and 1=2 or 1=1", 5);
        gives(e, "lean 5 if 1=1 and 1=2 or 1=2 and 1=1", 0);
        fails(e, "lean 5 if and 1=1", 10, 0);
        fails(e, "lean 5 if 1=1 and", 17, 0);
        fails(e, "lean 5 if 1=1 and or 1=1", 18, 0);
    }

    private static void facts(Edge e) {
        e.term("II", "FACT: not FACT | [ TEST ] (these brackets are signs) | SUM SIGN SUM,");
        gives(e, "lean 5 if not 1=2", 5);
        gives(e, "lean 5 if not 1=1", 0);
        gives(e, "lean 5 if not not 1=1", 5);
        gives(e, "lean 5 if not 1=2 and 1=2", 0);
        gives(e, "lean 5 if not 1=2 or 1=1", 5);
        gives(e, "lean 5 if not [1=2 and 1=2]", 5);
        gives(e, "lean 5 if not [1=1 or 1=2]", 0);
        gives(e, "lean 5 if [1=1 or 1=1] and 1=2", 0);
        gives(e, "lean 5 if 1=2 and [1=1 or 1=1]", 0);
        gives(e, "lean 5 if [[1=1]]", 5);
        fails(e, "lean 5 if []", 11, 0);
        fails(e, "lean 5 if [1=1", 14, 0);
        fails(e, "lean 5 if 1=1]", 13, 0);
        fails(e, "lean 5 if [1=1]]", 15, 0);
        fails(e, "lean 5 if [1=1;lean 5]", 14, 0);
        fails(e, "lean 5 if [1=1] 1=1", 16, 0);
        fails(e, "lean 5 if [1]=1", 12, 0);
        fails(e, "lean 5 if not", 13, 0);
        fails(e, "lean 5 if not and 1=1", 14, 0);
        fails(e, "lean 5 if 1=1 not 1=1", 14, 0);
        fails(e, "lean 5 if 1", 11, 0);
        fails(e, "lean 5 if 1=", 12, 0);
        fails(e, "lean 5 if =1", 10, 0);
        fails(e, "lean 5 if 1=1=1", 13, 0);
        fails(e, "lean [1]", 5, 0);
        fails(e, "lean not 1", 5, 0);
    }

    private static void signs(Edge e) {
        e.term("II", "SIGN one of < <= = >= >.");
        String[] signs = {"<", "<=", "=", ">=", ">"};
        int[][] want = {{5, 0, 0}, {5, 5, 0}, {0, 5, 0}, {0, 5, 5}, {0, 0, 5}};
        for (int i = 0; i < signs.length; i++) {
            for (int left = 6; left <= 8; left++) {
                gives(e, "lean 5 if " + left + signs[i] + "7", want[i][left - 6]);
            }
        }
        gives(e, "lean 5 if " + ROUND + " < 1", 5);
        gives(e, "lean 5 if " + ROUND + " - 1 > 0 - 1", 5);
        gives(e, "lean 5 if " + ROUND + " >= 1", 0);
        gives(e, "lean 5 if 1 <= " + ROUND, 0);
        fails(e, "lean 5 if 1 < = 1", 14, 0);
        fails(e, "lean 5 if 1 > = 1", 14, 0);
        fails(e, "lean 5 if 1=<1", 12, 0);
        fails(e, "lean 5 if 1=>1", 12, 0);
        fails(e, "lean 5 if 1==1", 12, 0);
        fails(e, "lean 5 if 1<>1", 12, 0);
        fails(e, "lean 5 if 1<==1", 13, 0);
        fails(e, "lean 5 if 1!1", 11, 0);
    }

    private static void sums(Edge e) {
        e.term("II", "SUM: TERM { (+ or -) TERM }.");
        gives(e, "lean 9-3-2", 4);
        gives(e, "lean 9-3+2", 8);
        gives(e, "lean 1+2+3", 6);
        gives(e, "lean 0-1", -1);
        fails(e, "lean -1", 5, 0);
        fails(e, "lean +1", 5, 0);
        fails(e, "lean 1+", 7, 0);
        fails(e, "lean 1--1", 7, 0);
        e.term("II", "TERM: VALUE { * VALUE }.");
        gives(e, "lean 2*3*4", 24);
        gives(e, "lean 2+3*4", 14);
        gives(e, "lean 2*3+4", 10);
        gives(e, "lean 20-2*3", 14);
        fails(e, "lean *1", 5, 0);
        fails(e, "lean 1*", 7, 0);
        fails(e, "lean 1**1", 7, 0);
        fails(e, "lean 1*-1", 7, 0);
        gives(e, "lean 5 if 2+3*4=14 and 14=2*3+8", 5);
    }

    private static void numbers(Edge e) {
        e.term("II", "VALUE: NUMBER (1 to 5 digits) | WORD.");
        gives(e, "lean 0", 0);
        gives(e, "lean 9", 9);
        gives(e, "lean 1234", 1234);
        gives(e, "lean 12345", 12345);
        gives(e, "lean 99999", 99999);
        gives(e, "lean 00001", 1);
        fails(e, "lean 100000", 5, 1);
        fails(e, "lean 000001", 5, 1);
        fails(e, "lean 123456", 5, 1);
        fails(e, "lean ", 5, 0);
        gives(e, "lean pace", 10);
        gives(e, "lean pace+1", 11);
    }

    private static void words(Edge e) {
        e.term("II", "WORDS (small letters, as far as these go on)");
        String[] words = {"bright", "pace", "side", "star", "thread", "way", "week", "year", "house", "age"};
        for (String word : words) {
            int end = 5 + word.length();
            fits(e, "lean " + word);
            fails(e, "lean " + word.substring(0, word.length() - 1), 5, 0);
            fails(e, "lean " + word.substring(1), 5, 0);
            fails(e, "lean " + word + "a", 5, 0);
            fails(e, "lean " + word + "z", 5, 0);
            fails(e, "lean " + word + "A", end, 0);
            fails(e, "lean " + word + "`", end, 0);
            fails(e, "lean " + word + "{", end, 0);
            fails(e, "lean " + word + "1", end, 0);
            fails(e, "lean " + word + " " + word, end + 1, 0);
            fails(e, "lean " + word + word, 5, 0);
            fails(e, "lean " + Character.toUpperCase(word.charAt(0)) + word.substring(1), 5, 0);
        }
        for (String word : words) {
            misspelt(e, "lean ", word, "");
        }
        misspelt(e, "", "lean", " 1");
        misspelt(e, "lean 1 ", "if", " 1=1");
        misspelt(e, "lean 1 if 1=1 ", "or", " 1=1");
        misspelt(e, "lean 1 if 1=1 ", "and", " 1=1");
        misspelt(e, "lean 1 if ", "not", " 1=1");
        fails(e, "leanx 1", 0, 0);
        fails(e, "lea 1", 0, 0);
        fails(e, "leanpace", 0, 0);
        fails(e, "LEAN 1", 0, 0);
        fails(e, "lean 1 iff 1=1", 7, 0);
        fails(e, "lean 1 i 1=1", 7, 0);
        fails(e, "lean 1 if nott 1=1", 10, 0);
        fails(e, "lean 1 if notpace=1", 10, 0);
        fails(e, "lean 1 if 1=1 an 1=1", 14, 0);
        fails(e, "lean 1 if 1=1 ands 1=1", 14, 0);
        fails(e, "lean 1 if 1=1 orr 1=1", 14, 0);
        fails(e, "lean 1 if 1=1 o 1=1", 14, 0);
    }

    /** Each letter of a word in turn is the one before it, the one behind it. */
    private static void misspelt(Edge e, String before, String word, String behind) {
        for (int i = 0; i < word.length(); i++) {
            for (int by = -1; by <= 1; by += 2) {
                char other = (char) (word.charAt(i) + by);
                String wrong = word.substring(0, i) + other + word.substring(i + 1);
                fails(e, before + wrong + behind, before.length(), 0);
            }
        }
    }

    /** The greatest star, thread, way, house of all. */
    private static Calls farthest() {
        Calls x = new Calls();
        for (int i = 0; i < 23; i++) {
            x.star(0, 1, 0);
        }
        x.star(9, 99, 1);
        x.observer(-5000);
        x.clock(9999);
        x.night(3, 9999);
        x.night(0, 0);
        x.record(0, 23, 4, 0, 4, 0, -1);
        x.record(1, 0, 0, 0, 0, 9999, -1);
        return x;
    }

    private static void word(Edge e, String word, long ofGreatest, long ofLeast) {
        Calls x = farthest();
        e.is("a law: lean " + word, x.law("lean " + word), 0);
        e.is("the greatest " + word, x.gives(0, 0), ofGreatest);
        e.is("the least " + word, x.gives(0, 1), ofLeast);
    }

    private static void starsWords(Edge e) {
        e.term("II", ": bright, pace, side, star (its number), thread, way,");
        word(e, "bright", 9, 0);
        word(e, "pace", 99, 1);
        word(e, "side", 1, 0);
        word(e, "star", 23, 0);
        word(e, "thread", 4, 0);
        word(e, "way", 4, 0);
        Calls x = Worlds.oneOfEach();
        for (int way = 0; way < 5; way++) {
            x.record(0, 0, way, 0, way, 0, way == 3 ? 0 : -1);
        }
        x.law("lean 10 * way + thread");
        for (int way = 0; way < 5; way++) {
            e.is("way and thread " + way, x.gives(0, way), 11 * way);
        }
    }

    private static void nightsWords(Edge e) {
        e.term("II", "week (of the NIGHT), year (of it), house,");
        word(e, "week", 9999, 0);
        word(e, "year", 192, 0);
        word(e, "house", 3, 0);
        Calls x = new Calls().observers(1).stars(1, 10);
        x.clock(200);
        x.night(1, 103);
        x.night(2, 104);
        x.sees(0, 0, 0, 1);
        x.sees(0, 1, 0, 1);
        x.law("lean 1000 * week + 10 * year + house");
        e.is("in the last week of a year", x.gives(0, 0), 103011);
        e.is("in the first week of a year", x.gives(0, 1), 104022);
    }

    private static void age(Edge e) {
        e.term("II", "age (YEARS of the OBSERVER in that WEEK: WEEKS since he was born by 52, towards 0).");
        int[][] ages = {{100, 100, 0}, {100, 49, 0}, {100, 48, 1}, {100, -3, 1}, {100, -4, 2}, {100, 151, 0},
            {100, 152, -1}, {100, 153, -1}, {100, 203, -1}, {100, 204, -2}, {0, 9999, -192}, {0, 9984, -192},
            {0, 9983, -191}, {9999, -5000, 288}, {9999, -4977, 288}, {9999, -4976, 287}, {9999, 9999, 0}};
        for (int[] a : ages) {
            Calls x = new Calls().stars(1, 10);
            x.clock(9999);
            x.observer(a[1]);
            x.night(0, a[0]);
            x.sees(0, 0, 0, 1);
            x.law("lean age");
            e.is("age in week " + a[0] + ", born in " + a[1], x.gives(0, 0), a[2]);
        }
    }

    private static void digits(Edge e) {
        e.term("II", "NUMBERS go as far as digits go on.");
        fails(e, "lean 1 2", 7, 0);
        fails(e, "lean 12345 6", 11, 0);
        fails(e, "lean 123456", 5, 1);
        fails(e, "lean 1/1", 6, 0);
        fails(e, "lean 1:1", 6, 0);
        fails(e, "lean /1", 5, 0);
        fails(e, "lean :1", 5, 0);
        fails(e, "lean 1pace", 6, 0);
        fails(e, "lean 1.5", 6, 0);
        gives(e, "lean 12+34", 46);
        gives(e, "lean 5if1=1", 5);
        gives(e, "lean 90", 90);
        gives(e, "lean 09", 9);
    }

    private static void blanks(Edge e) {
        e.term("II", "Blanks (32) stand between as one likes.");
        gives(e, "lean5", 5);
        gives(e, "  lean  5  ", 5);
        gives(e, "lean5if1=1and2<3or[4>=4]and not[1=2];lean6", 5);
        gives(e, " lean 5  if  1  <=  1  and  not  [  1  =  2  ]  ;  lean  6 + 1 * 2 ", 5);
        for (int sign : new int[] {0, 9, 10, 13, 31, 33, 160, 255}) {
            fails(e, "lean" + (char) sign + "5", 4, 0);
            fails(e, "lean 5" + (char) sign, 6, 0);
            fails(e, (char) sign + "lean 5", 0, 0);
        }
        fails(e, "le an 5", 0, 0);
        fails(e, "lean 1 2", 7, 0);
        fails(e, "lean pa ce", 5, 0);
        fails(e, "lean 1 if 1 < = 1", 14, 0);
        fails(e, "lean 1 i f 1=1", 7, 0);
    }

    private static void depth(Edge e) {
        e.term("II", "[ and not lie within one another 10 deep at most;");
        for (int deep = 9; deep <= 11; deep++) {
            String brackets = "lean 5 if " + times("[", deep) + "1=1" + times("]", deep);
            String nots = "lean 5 if " + times("not ", deep) + (deep % 2 == 0 ? "1=1" : "1=2");
            String both = "lean 5 if " + times("not[", deep / 2) + times("[", deep % 2)
                + (deep / 2 % 2 == 0 ? "1=1" : "1=2") + times("]", deep / 2 + deep % 2);
            if (deep < 11) {
                gives(e, brackets, 5);
                gives(e, nots, 5);
                gives(e, both, 5);
            } else {
                fails(e, brackets, 20, 2);
                fails(e, nots, 50, 2);
                fails(e, both, 30, 2);
            }
        }
        String ten = times("[", 10) + "1=1" + times("]", 10);
        gives(e, "lean 5 if " + ten + " and " + ten + " and " + times("not ", 10) + "1=1", 5);
        gives(e, "lean 6 if not " + ten.substring(1, 22) + ";lean 5 if " + ten, 5);
        gives(e, "lean 5 if [" + times("not ", 9) + "1=2 and " + times("not ", 9) + "1=2]", 5);
        fails(e, "lean 5 if [" + times("not ", 9) + "1=2 and " + times("not ", 10) + "1=2]", 91, 2);
    }

    private static void parts(Edge e) {
        e.term("II", "at most 60 VALUES and FACTS made of a SIGN, together.");
        for (int n : new int[] {58, 59}) {
            gives(e, "lean 1" + times("+1", n), n + 1);
        }
        fails(e, "lean 1" + times("+1", 60), 125, 3);
        fits(e, "lean 1" + times("*pace", 59));
        fails(e, "lean 1" + times("*pace", 60), 302, 3);
        // with a fact there are three more: two values and itself
        fits(e, "lean 1" + times("+1", 55) + " if 1=1");
        fits(e, "lean 1" + times("+1", 56) + " if 1=1");
        fails(e, "lean 1" + times("+1", 57) + " if 1=1", 126, 3);
        fails(e, "lean 1" + times("+1", 58) + " if 1=1", 127, 3);
        fails(e, "lean 1" + times("+1", 59) + " if 1=1", 128, 3);
        // what is within the sides of a fact counts, what holds facts together does not
        fits(e, "lean 1 if 1=1" + times(" or not [1=1] and 1=1", 9) + "+1+1");
        fails(e, "lean 1 if 1=1" + times(" or not [1=1] and 1=1", 9) + "+1+1+1", 207, 3);
        // they count through all clauses
        fits(e, "lean 1" + times("+1", 29) + ";lean 1" + times("+1", 29));
        fails(e, "lean 1" + times("+1", 29) + ";lean 1" + times("+1", 30), 130, 3);
        fits(e, "lean 1" + times("+1", 26) + ";lean 1" + times("+1", 29) + " if 1=1");
        fails(e, "lean 1" + times("+1", 27) + ";lean 1" + times("+1", 29) + " if 1=1", 131, 3);
    }

    private static void faultsAlongTheText(Edge e) {
        e.term("II", "FAULTS, the first along the text, 1 + 8 * its place and:");
        fails(e, "x" + times(" ", 300) + "x", 0, 0);
        fails(e, "lean 123456 + x", 5, 1);
        fails(e, "lean x + 123456", 5, 0);
        fails(e, "lean 1" + times("+1", 60) + "+x", 125, 3);
        fails(e, "lean 1" + times("+1", 58) + "+x+1+1", 123, 0);
        fails(e, "lean 1 if " + times("[", 11) + "x", 20, 2);
        fails(e, "lean 1 if " + times("[", 9) + "x" + times("[", 9), 19, 0);
        fails(e, "lean 1" + times(";lean 1", 12) + "x", 84, 4);
        fails(e, "lean 1" + times(";lean 1", 11) + "x;lean 1", 83, 0);
        e.is("of place 0", new Calls().law("x"), -3);
        e.is("of place 1", new Calls().law(" x"), -11);
        e.is("of place 399", new Calls().law(times(" ", 399) + "x"), -2 - 3193);
        e.is("of place 400", new Calls().law(times(" ", 400)), -2 - 3201);
    }

    private static void faultOfWords(Edge e) {
        e.term("II", "0 a byte or WORD that can't stand there, or the end (behind the last byte);");
        fails(e, "", 0, 0);
        fails(e, " ", 1, 0);
        fails(e, "lean", 4, 0);
        fails(e, "lean   ", 7, 0);
        fails(e, "lean 1+  ", 9, 0);
        fails(e, "lean 1 if 1=1 and   ", 20, 0);
        fails(e, "lean 1 if [1=1   ", 17, 0);
        String[] words = {"lean", "if", "or", "and", "not", "pace", "1", "[", "]", ";", "+", "*", "="};
        // behind each of these texts just the words and signs told can stand, so that the text may go on behind them
        String[] texts = {"", "lean ", "lean 1 ", "lean 1 if ", "lean 1 if 1 ", "lean 1 if 1= ", "lean 1 if 1=1 ",
            "lean 1 if [1=1 ", "lean 1 if [1=1] "};
        String[] stand = {" lean ", " pace 1 ", " if ; + * ", " not pace 1 [ ", " + * = ", " pace 1 ",
            " or and ; + * ", " or and ] + * ", " or and ; "};
        for (int i = 0; i < texts.length; i++) {
            for (String word : words) {
                boolean stands = stand[i].contains(" " + word + " ");
                // a byte that can stand nowhere tells how far the reading goes
                fails(e, texts[i] + word + " ?", texts[i].length() + (stands ? word.length() + 1 : 0), 0);
            }
        }
    }

    private static void faultOfEveryByte(Edge e) {
        e.term("II", "a byte or WORD that can't stand there");
        for (int b = 0; b < 256; b++) {
            char sign = (char) b;
            boolean digit = b >= '0' && b <= '9';
            boolean joins = b == '+' || b == '-' || b == '*';
            boolean compares = b == '<' || b == '=' || b == '>';
            stands(e, sign + "lean 5", b == ' ' ? -1 : 0);
            stands(e, "lean " + sign, digit ? -1 : b == ' ' ? 6 : 5);
            stands(e, "lean 5" + sign, digit || b == ' ' ? -1 : joins || b == ';' ? 7 : 6);
            stands(e, "lean 5 if 5" + sign + "5", compares ? -1 : digit || joins ? 13 : b == ' ' ? 12 : 11);
            stands(e, "lean 5 if 5=5" + sign, digit || b == ' ' ? -1 : joins || b == ';' ? 14 : 13);
            stands(e, "lean 5 if " + sign + "5=5]", b == '[' ? -1 : digit || b == ' ' ? 14 : 10);
        }
    }

    private static void stands(Edge e, String text, int place) {
        if (place < 0) {
            fits(e, text);
        } else {
            fails(e, text, place, 0);
        }
    }

    private static void faultOfDigits(Edge e) {
        e.term("II", "1 a NUMBER of more digits;");
        fits(e, "lean 99999");
        fails(e, "lean 999999", 5, 1);
        fails(e, "lean 1+999999", 7, 1);
        fails(e, "lean " + times("9", 395), 5, 1);
        fails(e, "lean 1 if 100000=1", 10, 1);
        fails(e, "lean 1 if 1=100000", 12, 1);
        // where no value can stand it is a byte that can't stand there
        fails(e, "lean 1 999999", 7, 0);
        fails(e, "999999", 0, 0);
        fails(e, "lean 1 if 1=1 999999", 14, 0);
    }

    private static void faultOfDepth(Edge e) {
        e.term("II", "2 too deep (at the sign that opens, or the word not);");
        fails(e, "lean 1 if " + times("[", 10) + "  [1=1", 22, 2);
        fails(e, "lean 1 if " + times("[", 10) + "  not 1=1", 22, 2);
        fails(e, "lean 1 if " + times("not ", 10) + "  [1=1", 52, 2);
        fails(e, "lean 1 if " + times("not ", 10) + "  not 1=1", 52, 2);
        fails(e, "lean 1 if " + times("[", 9) + "1=1 or [[1=1", 27, 2);
        fits(e, "lean 1 if " + times("[", 9) + "1=1 or [1=1" + times("]", 10));
    }

    private static void faultOfParts(Edge e) {
        e.term("II", "3 one VALUE or FACT too many (at its first byte; of a FACT at its SIGN);");
        String sixty = "lean 1" + times("+1", 59);
        fails(e, sixty + "+  12345", 127, 3);
        fails(e, sixty + "*  bright", 127, 3);
        fails(e, sixty + " if  1=1", 129, 3);
        fails(e, sixty + ";lean 1", 130, 3);
        String fiftyNine = "lean 1" + times("+1", 58);
        for (String sign : new String[] {"<", "<=", "=", ">=", ">"}) {
            fails(e, fiftyNine + " if 12  " + sign + " 1", 130, 3);
        }
        String fiftyEight = "lean 1" + times("+1", 57);
        fails(e, fiftyEight + " if 12  <=  pace", 132, 3);
        // without a sign it is no fact made of one
        fails(e, fiftyNine + " if 12  ;", 130, 0);
        fails(e, fiftyNine + " if 12 + 1 = 1", 131, 3);
    }

    private static void faultOfClauses(Edge e) {
        e.term("II", "4 a thirteenth CLAUSE (at its first byte).");
        String twelve = "lean 1" + times(";lean 1", 11);
        fits(e, twelve);
        fails(e, twelve + ";lean 1", 84, 4);
        fails(e, twelve + "  ;  lean 1", 88, 4);
        fails(e, twelve + ";lean", 84, 4);
        fails(e, twelve + ";lean1;lean", 84, 4);
    }

    private static void leastOfOnePlace(Edge e) {
        e.term("II", "Of one place the least.");
        String sixty = "lean 1" + times("+1", 59);
        String twelve = "lean 1" + times(";lean 1", 11);
        fails(e, sixty + "+123456", 125, 1);
        fails(e, sixty + "+12345", 125, 3);
        fails(e, sixty + "+paces", 125, 0);
        fails(e, sixty + "+", 125, 0);
        fails(e, sixty + "+[", 125, 0);
        fails(e, twelve + ";", 84, 0);
        fails(e, twelve + ";leans 1", 84, 0);
        fails(e, twelve + ";1", 84, 0);
        fails(e, "lean 1 if " + times("[", 10) + "]", 20, 0);
        fails(e, "lean 1 if " + times("[", 10) + "nots", 20, 0);
        fails(e, "lean 1 if " + times("[", 10) + "123456=1", 20, 1);
        // too deep, and values enough: the sign that opens is no value
        fails(e, "lean 1" + times("+1", 59) + " if " + times("[", 11), 138, 2);
    }

    private static void firstClause(Edge e) {
        e.term("II", "What a LAW gives a RECORD: the SUM (64 bits, going round) of the first CLAUSE that has no TEST, "
            + "or whose TEST holds");
        gives(e, "lean 5;lean 6", 5);
        gives(e, "lean 5 if 1=2;lean 6;lean 7", 6);
        gives(e, "lean 5 if 1=2;lean 6 if 1=1;lean 7", 6);
        gives(e, "lean 5;lean 6 if 1=1", 5);
        gives(e, times("lean 5 if 1=2;", 11) + "lean 6", 6);
        gives(e, times("lean 5 if 1=2;", 11) + "lean 6 if 1=1", 6);
        gives(e, "lean 6" + times(";lean 5", 11), 6);
    }

    private static void goingRound(Edge e) {
        e.term("II", "(64 bits, going round)");
        gives(e, "lean " + ROUND, -999999);
        gives(e, "lean " + ROUND + "-1", 999999);
        gives(e, "lean " + ROUND + "-1+1", -999999);
        gives(e, "lean 65536*65536*65536*65536+5", 5);
        gives(e, "lean 65536*65536*65536*65536-5", -5);
        gives(e, "lean " + ROUND + "+" + ROUND + "+7", 7);
        gives(e, "lean 99999*99999*99999*99999", wrapped(4));
        gives(e, "lean 5 if " + ROUND + "<0 and " + ROUND + "-1>0 and 65536*65536*65536*65536=0", 5);
        gives(e, "lean 5 if 65536*65536*65536*16384>0", 5);
        gives(e, "lean 5 if 65536*65536=0", 0);
        gives(e, "lean 5 if 32768*65536<0", 0);
    }

    private static long wrapped(int times) {
        long all = 1;
        for (int i = 0; i < times; i++) {
            all *= 99999;
        }
        return Math.max(-999999, Math.min(999999, all));
    }

    private static void held(Edge e) {
        e.term("II", "held to -999999 to 999999 thousandths;");
        gives(e, "lean 99999*10+8", 999998);
        gives(e, "lean 99999*10+9", 999999);
        gives(e, "lean 99999*10+10", 999999);
        gives(e, "lean 0-99999*10-8", -999998);
        gives(e, "lean 0-99999*10-9", -999999);
        gives(e, "lean 0-99999*10-10", -999999);
        // it is held at the end alone, and not in a test
        gives(e, "lean 99999*99-99999*98", 99999);
        gives(e, "lean 5 if 99999*10+10>99999*10+9", 5);
    }

    private static void without(Edge e) {
        e.term("II", "0 without.");
        Calls longer = Worlds.oneOfEach();
        longer.sees(0, 0, 0, 5);
        longer.law("lean 5 if 1 = 2; lean 6; lean 7");
        longer.law("lean 8 if 1 = 2");
        e.is("a law behind a longer one", longer.gives(1, 0), 0);
        e.is("the longer one", longer.gives(0, 0), 6);
        gives(e, "lean 5 if 1=2", 0);
        gives(e, "lean 5 if 1=2" + times(";lean 6 if 2=1", 11), 0);
        gives(e, "lean 5 if not [1=1]", 0);
    }
}
