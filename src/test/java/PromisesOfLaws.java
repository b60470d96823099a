/** Promises 9 to 12: feed, end, law, gives. */
final class PromisesOfLaws {
    private static final int MIN = Integer.MIN_VALUE;
    private static final int MAX = Integer.MAX_VALUE;
    private static final int LEAN = 0x6c65616e;

    private PromisesOfLaws() {
    }

    static void hold(Edge e) {
        feed(e);
        feedTooMany(e);
        end(e);
        endTooMany(e);
        law(e);
        lawAtFault(e);
        lawTooMany(e);
        gives(e);
        givesNothing(e);
    }

    private static void feed(Edge e) {
        e.promise(9, "Twenty bytes come behind the TAPE, of each number the highest first: how many it has;");
        Calls x = new Calls();
        for (int i = 1; i <= 20; i++) {
            e.is("feed " + i, x.feed(MIN, -1, 0, 1, MAX), 20 * i);
            e.is("how many then", x.count(7), 20 * i);
        }
        Calls order = Worlds.oneOfEach();
        order.sees(0, 0, 0, 5);
        order.feed(LEAN, 0x20313233, 0x34353b6c, 0x65616e20, 0x37202020);
        e.is("a law of five numbers", order.law(), 0);
        e.is("what it gives", order.gives(0, 0), 12345);
        order.feed(LEAN, 0x20202020, 0x20202020, 0x20202020, 0x20202038);
        order.feed(0x37202020, 0x20202020, 0x20202020, 0x20202020, 0x20202020);
        e.is("a law of two feeds", order.law(), 1);
        e.is("the second comes behind the first", order.gives(1, 0), 87);
        // a byte above 127 is one byte, and can't stand at its place
        int[] signs = {0x80, 0xff, 0x00};
        for (int sign : signs) {
            for (int place = 0; place < 20; place++) {
                int[] f = {0x20202020, 0x20202020, 0x20202020, 0x20202020, 0x20202020};
                int shift = 24 - place % 4 * 8;
                f[place / 4] = f[place / 4] & ~(255 << shift) | sign << shift;
                Calls y = new Calls();
                y.feed(f[0], f[1], f[2], f[3], f[4]);
                e.is("byte " + sign + " at place " + place, y.law(), -3 - 8 * place);
            }
        }
    }

    private static void feedTooMany(Edge e) {
        e.promise(9, "NONE, and none comes, if it would have more than 400.");
        for (int bytes : new int[] {381, 382, 399, 400}) {
            e.nothing("feed behind " + bytes, () -> Worlds.withTape(bytes), x -> x.feed(LEAN, 1, 2, 3, 4), -1);
        }
        for (int bytes : new int[] {0, 1, 361, 379, 380}) {
            e.is("feed behind " + bytes, Worlds.withTape(bytes).feed(1, 2, 3, 4, 5), bytes + 20);
        }
        Calls x = Worlds.withTape(400);
        x.feed(0x2b312020, 0, 0, 0, 0);
        e.is("none came: the law is as it was", x.law(), 0);
        e.is("none came: what it gives", x.gives(0, 0), 4321);
        e.is("empty then, twenty come", x.feed(0, 0, 0, 0, 0), 20);
        Calls ten = Worlds.withLaws(10);
        for (int i = 0; i < 20; i++) {
            ten.feed(0, 0, 0, 0, 0);
        }
        e.is("with ten laws, too", ten.feed(0, 0, 0, 0, 0), -1);
        e.is("with ten laws 400 stay", ten.count(7), 400);
    }

    private static void end(Edge e) {
        e.promise(10, "The TAPE has its first n bytes alone: n;");
        for (int bytes : new int[] {0, 1, 20, 399, 400}) {
            for (int n : new int[] {0, 1, bytes - 1, bytes}) {
                if (n >= 0 && n <= bytes) {
                    Calls x = Worlds.withTape(bytes);
                    e.is("end(" + n + ") of " + bytes, x.end(n), n);
                    e.is("bytes then", x.count(7), n);
                }
            }
        }
        Calls x = Worlds.withTape(400);
        x.end(7);
        e.is("the first alone", x.law(), 0);
        e.is("43 of 4321", x.gives(0, 0), 43);
        Calls y = Worlds.withTape(20);
        y.end(8);
        y.feed(0x39202020, 0x20202020, 0x20202020, 0x20202020, 0x20202020);
        e.is("more come behind them", y.law(), 0);
        e.is("432, and 9", y.gives(0, 0), 4329);
        Calls none = Worlds.withTape(20);
        none.end(0);
        e.is("none: no law", none.law(), -3);
        Calls blank = new Calls().fed("    lean 5");
        blank.end(0);
        e.is("none of blanks: no law", blank.law(), -3);
        // what was cut off is as if it had never come
        String text = "lean 10 if 1<=2 and not[pace>=99] ; lean 5";
        for (int n = 0; n <= text.length(); n++) {
            Calls cut = new Calls().fed(text);
            cut.end(n);
            e.is("its first " + n + " bytes", cut.law(), new Calls().law(text.substring(0, n)));
        }
        e.is("cut within a sign", new Calls().fed("lean 1 if 1<=2").end(12), 12);
        Calls sign = new Calls().fed("lean 1 if 1<=2");
        sign.end(12);
        e.is("cut within a sign: the fault", sign.law(), -2 - (1 + 8 * 12));
    }

    private static void endTooMany(Edge e) {
        e.promise(10, "or n is below 0.");
        for (int bytes : new int[] {0, 1, 20, 399, 400}) {
            for (int n : new int[] {MIN, -20, -2, -1}) {
                e.nothing("end(" + n + ") of " + bytes, () -> Worlds.withTape(bytes), x -> x.end(n), -1);
            }
            e.is("end(0) of " + bytes, Worlds.withTape(bytes).end(0), 0);
        }
        e.promise(10, "NONE, and nothing happens, if it has not so many,");
        for (int bytes : new int[] {0, 1, 20, 399, 400}) {
            for (int n : new int[] {bytes + 1, bytes + 2, bytes + 20, 401, MAX}) {
                e.nothing("end(" + n + ") of " + bytes, () -> Worlds.withTape(bytes), x -> x.end(n), -1);
            }
            e.is("end(" + bytes + ") of as many", Worlds.withTape(bytes).end(bytes), bytes);
        }
        Calls x = Worlds.withTape(20);
        x.end(9);
        e.is("bytes that were cut off", x.end(10), -1);
        e.is("those that are left", x.end(9), 9);
        Calls law = Worlds.withTape(20);
        law.law();
        e.is("bytes that became a law", law.end(1), -1);
    }

    private static void law(Edge e) {
        e.promise(11, "The TAPE, which is empty then, is a LAW: its number;");
        Calls x = Worlds.oneOfEach();
        x.sees(0, 0, 0, 5);
        for (int i = 0; i < 10; i++) {
            x.fed("lean " + (7 * i));
            e.is("law " + i, x.law(), i);
            e.is("the tape is empty then", x.count(7), 0);
            e.is("how many then", x.count(5), i + 1);
            e.is("what it gives", x.gives(i, 0), 7 * i);
        }
        Calls again = new Calls();
        again.law("lean 1");
        e.is("of the empty tape then", again.law(), -3);
        Calls full = Worlds.withTape(400);
        e.is("of 400 bytes", full.law(), 0);
        e.is("of 400 bytes, the tape is empty then", full.count(7), 0);
    }

    private static void lawAtFault(Edge e) {
        e.promise(11, "-2 - its FAULT;");
        String[] texts = {"", "x", "lean 123456", "lean 1 if " + "[".repeat(11), "lean 1" + "+1".repeat(60),
            "lean 1" + ";lean 1".repeat(12), " ".repeat(400)};
        int[] faults = {1, 1, 1 + 8 * 5 + 1, 1 + 8 * 20 + 2, 1 + 8 * 125 + 3, 1 + 8 * 84 + 4, 1 + 8 * 400};
        for (int i = 0; i < texts.length; i++) {
            Calls x = Worlds.withLaws(9).fed(texts[i]);
            e.is("the fault " + faults[i], x.law(), -2 - faults[i]);
            e.is("no law then", x.count(5), 9);
            e.is("the tape is empty then", x.count(7), 0);
            e.is("the next is the tenth", x.law("lean 1"), 9);
        }
        String[] open = {"lean 1 if not [[[1 = 1 and x", "lean 1 if [[1 < x", "lean 9 - x", "lean 9 * x",
            "lean 9 if not x", "lean 9 if 1 = 1 and x", "lean 9 if 1 = 1 or x",
            "lean 1 if " + "[".repeat(11), "lean 1" + "+1".repeat(60),
            "lean 1" + ";lean 1".repeat(12), "lean 123456"};
        String[] then = {"lean 5", "lean 5 if 1 = 1", "lean 5 if " + "[".repeat(10) + "1=1" + "]".repeat(10),
            "lean 5 if " + "not ".repeat(10) + "1=1", "lean 5" + "+0".repeat(59), "lean 5" + ";lean 6".repeat(11)};
        for (String fault : open) {
            for (String text : then) {
                Calls y = Worlds.oneOfEach();
                y.sees(0, 0, 0, 5);
                e.is("at fault: " + fault, y.law(fault) < -2, true);
                e.is("behind it: " + text, y.law(text), 0);
                e.is("behind it, given: " + text, y.gives(0, 0), 5);
            }
        }
        // the laws that there are stay as they are
        Calls x = Worlds.withLaws(3);
        Calls y = Worlds.withLaws(3);
        x.law("lean 1 if [1 = 1 and");
        e.sameLater("a law at fault", x, y);
    }

    private static void lawTooMany(Edge e) {
        e.promise(11, "NONE, and nothing happens: there are 10.");
        e.nothing("a law with ten", () -> Worlds.withLaws(10).fed("lean 5"), Calls::law, -1);
        e.nothing("a text at fault with ten", () -> Worlds.withLaws(10).fed("lean"), Calls::law, -1);
        e.nothing("an empty tape with ten", () -> Worlds.withLaws(10), Calls::law, -1);
        Calls x = Worlds.withLaws(10).fed("lean 5");
        x.law();
        e.is("the tape stays", x.count(7), 6);
        e.is("ten laws", x.count(5), 10);
        for (int i = 0; i < 10; i++) {
            e.is("law " + i + " as it was", x.gives(i, 0), i);
        }
        e.is("the tenth", Worlds.withLaws(9).law("lean 5"), 9);
    }

    private static void gives(Edge e) {
        e.promise(12, "What a LAW gives a RECORD (STRUCK or not);");
        Calls x = Worlds.oneOfEach();
        x.clock(5);
        x.record(0, 0, 4, 0, 0, 5, -1);
        x.record(0, 0, 3, 0, 3, 5, 5);
        x.law("lean 1000 * thread");
        e.is("of one", x.gives(0, 0), 4000);
        e.is("of a feigned one", x.gives(0, 1), 3000);
        x.strike(0);
        e.is("of a struck one", x.gives(0, 0), 4000);
        x.clock(6);
        e.is("of a struck one later", x.gives(0, 0), 4000);
        e.nothing("gives", Worlds::rich, y -> y.gives(0, 10), 0);
        e.nothing("gives of a struck one", Worlds::rich, y -> y.gives(1, 2), -2500);
    }

    private static void givesNothing(Edge e) {
        e.promise(12, "-1000000 without these.");
        // the rich world has 2 laws and 15 records
        int[][] wrong = {{-1, 0}, {2, 0}, {MIN, 0}, {MAX, 0}, {10, 0}, {0, -1}, {0, 15}, {0, 400}, {0, MIN}, {0, MAX}};
        for (int[] w : wrong) {
            e.nothing("gives(" + w[0] + ", " + w[1] + ")", Worlds::rich, x -> x.gives(w[0], w[1]), -1000000);
        }
        e.is("the last of both", Worlds.rich().gives(1, 14), -2500);
        e.is("the first of both", Worlds.rich().gives(0, 0), 2000);
        e.is("no law", Worlds.withRecords(1).gives(0, 0), -1000000);
        e.is("no record", Worlds.withTape(9).gives(0, 0), -1000000);
        Calls back = Worlds.withLaws(1);
        back.mark(0);
        back.sees(0, 0, 0, 5);
        back.back(0);
        e.is("gone back, the record is none", back.gives(0, 1), -1000000);
        e.is("the last of 400 by the tenth", lastOfAll(), 9);
    }

    private static int lastOfAll() {
        Calls x = Worlds.withLaws(10);
        for (int i = 1; i < 400; i++) {
            x.sees(0, 0, 0, i);
        }
        return x.gives(9, 399);
    }
}
