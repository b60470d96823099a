/** Promises 9 to 12: feed, end, law, gives. */
public final class LawTest {
    private static final Due DUE = new Due();

    public static void main(String[] args) {
        feed();
        end();
        law();
        wordsAndSignsThatCannotStand();
        numbers();
        depth();
        parts();
        clauses();
        leastOfOnePlace();
        gives();
        tests();
        DUE.close("LawTest");
    }

    private static void feed() {
        EachLater x = new EachLater();
        DUE.is("feed: twenty", x.feed(0x6c65616e, 0x20313233, 0x34352020, 0x20202020, 0x20202020), 20);
        DUE.is("feed: a law of it", x.law(), 0);
        DUE.is("feed: a byte above 127", x.feed(0x6c65616e, 0x20ff3132, 0, 0, 0), 20);
        DUE.is("feed: it can't stand", x.law(), Texts.fault(5, 0));
        for (int i = 1; i <= 20; i++) {
            DUE.is("feed " + i, x.feed(0, -1, Integer.MIN_VALUE, Integer.MAX_VALUE, i), 20 * i);
        }
        DUE.is("feed: full", x.feed(0, 0, 0, 0, 0), -1);
        DUE.is("feed: none came", x.count(7), 400);
        x.end(381);
        DUE.is("feed: one byte too many", x.feed(0, 0, 0, 0, 0), -1);
        x.end(380);
        DUE.is("feed: just enough", x.feed(0, 0, 0, 0, 0), 400);
    }

    private static void end() {
        EachLater x = new EachLater();
        DUE.is("end: nothing of nothing", x.end(0), 0);
        DUE.is("end: too many", x.end(1), -1);
        x.feed(0, 0, 0, 0, 0);
        DUE.is("end: below 0", x.end(-1), -1);
        DUE.is("end: more than it has", x.end(21), -1);
        DUE.is("end: nothing happened", x.count(7), 20);
        DUE.is("end: all", x.end(20), 20);
        DUE.is("end: some", x.end(3), 3);
        DUE.is("end: fewer", x.count(7), 3);
        DUE.is("end: they don't come again", x.end(4), -1);
        DUE.is("end: none", x.end(0), 0);
    }

    private static void law() {
        EachLater x = new EachLater();
        DUE.is("law: of nothing", x.law(), -3);
        DUE.is("law: its fault", Texts.law(x, "lean"), Texts.fault(4, 0));
        DUE.is("law: the tape is empty behind a fault", x.count(7), 0);
        for (int i = 0; i < 10; i++) {
            DUE.is("law " + i, Texts.law(x, "lean " + i), i);
            DUE.is("law: the tape is empty", x.count(7), 0);
        }
        Texts.feed(x, "lean 5");
        DUE.is("law: the eleventh", x.law(), -1);
        DUE.is("law: nothing happened", x.count(7), 6);
        x.end(2);
        DUE.is("law: the eleventh, at fault", x.law(), -1);
        DUE.is("law: how many", x.count(5), 10);
    }

    private static void fits(String text) {
        DUE.is("fits: " + text, Texts.law(new EachLater(), text), 0);
    }

    private static void fails(String text, int place, int which) {
        DUE.is("fails: " + text, Texts.law(new EachLater(), text), Texts.fault(place, which));
    }

    private static void wordsAndSignsThatCannotStand() {
        fits("lean 1");
        fits("  lean  1  ");
        fits("lean5");
        fits("lean5if7=7;lean3");
        fits("lean bright+pace-side*star+thread*way-week+year*house-age");
        fits("lean 1 if 1<2 and 1<=2 or 1=1 and not 1>=2 or [1>2]");
        fits("lean 1 if[not[1=1]]and[2=2]");
        fails("   ", 3, 0);
        fails("lean", 4, 0);
        fails("lean  ", 6, 0);
        fails("leen 1", 0, 0);
        fails("leanx 1", 0, 0);
        fails("leana 1", 0, 0);
        fails("leanz 1", 0, 0);
        fails("mean 1", 0, 0);
        fails("lean` 1", 4, 0);
        fails("lean{ 1", 4, 0);
        fails("lean /1", 5, 0);
        fails("lean :1", 5, 0);
        fails("Lean 1", 0, 0);
        fails("5", 0, 0);
        fails("lean -5", 5, 0);
        fails("lean 5 6", 7, 0);
        fails("lean 5 bright", 7, 0);
        fails("lean brighter", 5, 0);
        fails("lean if 1 = 1", 5, 0);
        fails("lean not", 5, 0);
        fails("lean 5 +", 8, 0);
        fails("lean 5 + ;", 9, 0);
        fails("lean 5 +* 5", 8, 0);
        fails("lean [5]", 5, 0);
        fails("lean 5 = 5", 7, 0);
        fails("lean 5 and 5", 7, 0);
        fails("lean 5;", 7, 0);
        fails("lean 5; ", 8, 0);
        fails("lean 5;;lean 5", 7, 0);
        fails("lean 5; if", 8, 0);
        fails("lean 5 iff 1=1", 7, 0);
        fails("lean 5 if", 9, 0);
        fails("lean 5 if lean", 10, 0);
        fails("lean 5 if 5", 11, 0);
        fails("lean 5 if 5;", 11, 0);
        fails("lean 5 if 5 and 5 = 5", 12, 0);
        fails("lean 5 if 5 < = 5", 14, 0);
        fails("lean 5 if 5 =< 5", 13, 0);
        fails("lean 5 if 5 == 5", 13, 0);
        fails("lean 5 if 5 < 5 < 5", 16, 0);
        fails("lean 5 if 5 < 5 ]", 16, 0);
        fails("lean 5 if [5 < 5", 16, 0);
        fails("lean 5 if [5 < 5;", 16, 0);
        fails("lean 5 if [5] < 5", 12, 0);
        fails("lean 5 if [5<5] + 5 < 5", 16, 0);
        fails("lean 5 if [5<5] 5", 16, 0);
        fails("lean 5 if [5<5]]", 15, 0);
        fails("lean 5 if []", 11, 0);
        fails("lean 5 if not", 13, 0);
        fails("lean 5 if not and 5<5", 14, 0);
        fails("lean 5 if 5<5 not 5<5", 14, 0);
        fails("lean 5 if 5<5 if 5<5", 14, 0);
        fails("lean 5 if 5<5 and", 17, 0);
        fails("lean 5 if 5<5 or ;", 17, 0);
        fails("lean 5\t", 6, 0);
        fails("lean 5" + (char) 0, 6, 0);
        fails("lean 5" + (char) 160, 6, 0);
        fails("lean 5,", 6, 0);
    }

    private static void numbers() {
        fits("lean 99999");
        fits("lean 00000");
        fails("lean 100000", 5, 1);
        fails("lean 1 + 000001 * 5", 9, 1);
        fails("lean 1 if 99999999999999999999 = 1", 10, 1);
        fits("lean 12345 if 12345 = 12345");
        fails("lean 1 123456", 7, 0);
        fits("lean 1*2bright".replace("2b", "2+b"));
        fails("lean 2bright", 6, 0);
        fails("lean bright2", 11, 0);
    }

    private static void depth() {
        fits("lean 1 if " + Texts.times("[", 10) + "1=1" + Texts.times("]", 10));
        fails("lean 1 if " + Texts.times("[", 11) + "1=1" + Texts.times("]", 11), 20, 2);
        fits("lean 1 if " + Texts.times("not ", 10) + "1=1");
        fails("lean 1 if " + Texts.times("not ", 11) + "1=1", 50, 2);
        fits("lean 1 if " + Texts.times("not[", 5) + "1=1" + Texts.times("]", 5));
        fails("lean 1 if " + Texts.times("not[", 5) + "not 1=1", 30, 2);
        fails("lean 1 if " + Texts.times("not[", 5) + "[1=1", 30, 2);
        // what is closed lies no more around what follows
        fits("lean 1 if " + Texts.times("not[", 5) + "1=1" + Texts.times("]", 5) + " and "
            + Texts.times("not[", 5) + "1=1" + Texts.times("]", 5));
        fits("lean 1 if " + Texts.times("not ", 9) + "1=1 or " + Texts.times("not ", 10) + "1=1");
        fits("lean 1 if not [not 1=1 and " + Texts.times("not ", 8) + "1=1]");
        fails("lean 1 if not [not 1=1 and " + Texts.times("not ", 9) + "1=1]", 59, 2);
        fits("lean 1 if [not [1=1] or " + Texts.times("[", 9) + "1=1" + Texts.times("]", 10));
        fits("lean 1 if " + Texts.times("not ", 10) + "1=1; lean 1 if " + Texts.times("not ", 10) + "1=1");
    }

    private static void parts() {
        fits("lean 1" + Texts.times("+1", 59));
        fails("lean 1" + Texts.times("+1", 60), 5 + 2 * 60, 3);
        // a sum of 1, then facts of 3 each: the twentieth fact lacks its right value
        String facts = "lean 1 if 1=1" + Texts.times(" or 1=1", 18);
        fits(facts);
        fits("lean 1+1+1" + facts.substring(6));
        fails(facts + " or 1=1", facts.length() + 6, 3);
        fails("lean 1+1" + facts.substring(6) + " or 1<=1", facts.length() + 2 + 5, 3);
        fails("lean 1+1+1" + facts.substring(6) + " or 1=1", facts.length() + 4 + 4, 3);
        // they count through all clauses
        fails("lean 1" + Texts.times("+1", 29) + ";lean 1" + Texts.times("+1", 29) + ";lean 1", 135, 3);
    }

    private static void clauses() {
        fits("lean 1" + Texts.times(";lean 1", 11));
        fails("lean 1" + Texts.times(";lean 1", 12), 6 + 7 * 11 + 1, 4);
        fails("lean 1" + Texts.times(";lean 1", 11) + ";  lean", 6 + 7 * 11 + 3, 4);
    }

    private static void leastOfOnePlace() {
        fails("lean 1" + Texts.times("+1", 59) + "+123456", 5 + 2 * 60, 1);
        fails("lean 1" + Texts.times("+1", 59) + "+wrong", 5 + 2 * 60, 0);
        fails("lean 1" + Texts.times("+1", 59) + "+", 5 + 2 * 60, 0);
        fails("lean 1" + Texts.times(";lean 1", 11) + ";", 6 + 7 * 11 + 1, 0);
        fails("lean 1" + Texts.times(";lean 1", 11) + ";leam", 6 + 7 * 11 + 1, 0);
        fails("lean 1 if " + Texts.times("[", 10) + "]", 20, 0);
    }

    private static void gives() {
        EachLater x = new EachLater();
        x.clock(130);
        x.observer(-60);
        x.observer(400);
        x.star(1, 1, 0);
        x.star(7, 33, 1);
        x.night(2, 110);
        x.record(0, 1, 4, 0, 1, 500, -1);
        x.record(0, 0, 0, 1, 3, 500, 400);
        String[] words = {"bright", "pace", "side", "star", "thread", "way", "week", "year", "house", "age"};
        int[] first = {7, 33, 1, 1, 4, 1, 110, 2, 2, 3};
        int[] second = {1, 1, 0, 0, 0, 3, 110, 2, 2, -5};
        for (int i = 0; i < words.length; i++) {
            DUE.is(words[i], Texts.law(x, "lean " + words[i]), i);
            DUE.is(words[i] + " of 0", x.gives(i, 0), first[i]);
            DUE.is(words[i] + " of 1", x.gives(i, 1), second[i]);
        }
        DUE.is("gives: no law", x.gives(10, 0), -1000000);
        DUE.is("gives: law below 0", x.gives(-1, 0), -1000000);
        DUE.is("gives: no record", x.gives(0, 2), -1000000);
        DUE.is("gives: record below 0", x.gives(0, -1), -1000000);
        x.strike(0);
        DUE.is("gives: struck", x.gives(0, 0), 7);
    }

    private static void given(String text, long want) {
        EachLater x = new EachLater();
        x.observer(0);
        x.star(7, 33, 1);
        x.night(2, 0);
        x.record(0, 0, 4, 0, 1, 500, -1);
        DUE.is("a law: " + text, Texts.law(x, text), 0);
        DUE.is("given: " + text, x.gives(0, 0), want);
    }

    private static void tests() {
        given("lean 2 + 3 * 4 - 5 - 6", 3);
        given("lean 2 * 3 * 4 - 5 * 6 + 1", -5);
        given("lean 99999 * 99999", 999999);
        given("lean 0 - 99999 * 99999", -999999);
        given("lean 99999*10+9", 999999);
        given("lean 99999*10+8", 999998);
        given("lean 0-99999*10-10", -999999);
        given("lean 65536*65536*65536*65536+5", 5);
        given("lean 65536*65536*65536*32768", -999999);
        given("lean 5 if 65536*65536*65536*32768 < 0", 5);
        given("lean 5 if 1 = 2", 0);
        given("lean 5 if 1 = 2; lean 6; lean 7", 6);
        given("lean 5 if 1 = 1; lean 6", 5);
        given("lean 5; lean 6 if 1 = 1", 5);
        given("lean 5 if 1 < 1; lean 6 if 1 <= 1; lean 7", 6);
        given("lean 5 if 1 > 1; lean 6 if 1 >= 1; lean 7", 6);
        given("lean 5 if 2 <= 1; lean 6 if 1 >= 2; lean 7 if 2 > 1", 7);
        given("lean 5 if 1 = 1 or 1 = 2 and 1 = 2", 5);
        given("lean 5 if [1 = 1 or 1 = 2] and 1 = 2", 0);
        given("lean 5 if not 1 = 2 and 1 = 2", 0);
        given("lean 5 if not [1 = 2 and 1 = 2]", 5);
        given("lean 5 if not not 1 = 1", 5);
        given("lean 5 if not 1 = 1", 0);
        given("lean 5 if not [1 = 1 or 1 = 2]", 0);
        given("lean 5 if not 1 = 2 or 1 = 1 and 1 = 2", 5);
        given("lean 5 if not [1 = 1] or 1 = 1", 5);
        given("lean 5 if [[1 = 2] or [1 = 1]] and not [not [thread = 4]]", 5);
        given("lean 5 if 1 + 2 * 3 = 7 and 7 = 2 * 3 + 1", 5);
        given("lean 5 if 9 - 3 - 2 = 4", 5);
        given("lean bright * 100 - pace if thread > 3 and way = 1; lean 1", 667);
    }
}
