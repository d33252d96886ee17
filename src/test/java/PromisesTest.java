/** Each promise in turn: ordinary inputs, the edges that the document names, wrong inputs. */
public final class PromisesTest {
    private static final Check CHECK = new Check();
    private static final long ONE = 1_000_000_000_000L;
    private static final int NONE = CoinsWarden.NONE;

    private static void due(String what, long got, long want) {
        CHECK.due(what, got, want);
    }

    private static CoinsWarden withLaw(String text) {
        CoinsWarden x = new CoinsWarden();
        due("law " + text, Check.law(x, text), 0);
        due("force", x.force(0), NONE);
        return x;
    }

    private static void promise01NewObject() {
        CoinsWarden x = new CoinsWarden();
        long[] first = {0, 0, 0, 0, 0, 0, 0, 0, 0, 0, 0, NONE, 1, 1, 40, 0, 12, 1, 20, 0};
        for (int what = 0; what < first.length; what++) {
            due("1: count " + what, x.count(what), first[what]);
        }
        due("1: status", x.status(), 0);
        due("1: fault", x.fault(), NONE);
        due("1: tar", x.tar(), 0);
        due("1: NONE", NONE, -1);
    }

    private static void promise02Car() {
        CoinsWarden x = new CoinsWarden();
        int[][] wrong = {{-1, 0, 0, 0}, {12, 12, 0, 0}, {0, 12, 0, 0}, {5, 4, 0, 0}, {0, -1, 0, 0},
            {0, 0, 2, 0}, {0, 0, -1, 0}, {0, 0, 0, 10}, {0, 0, 0, -1}};
        for (int[] w : wrong) {
            due("2: wrong car", x.car(w[0], w[1], w[2], w[3]), -1);
            due("2: status", x.status(), -1);
        }
        due("2: none came", x.count(0), 0);
        due("2: first", x.car(0, 11, 1, 9), 0);
        due("2: status", x.status(), 0);
        for (int n = 1; n < 6; n++) {
            due("2: next", x.car(11, 11, 0, 0), n);
        }
        due("2: no room", x.car(0, 0, 0, 0), -5);
        due("2: a wrong number ahead of no room", x.car(0, 0, 0, 10), -1);
        due("2: cars", x.count(0), 6);
    }

    private static void promise03Put() {
        CoinsWarden x = new CoinsWarden();
        due("3: no car", x.put(0, 0, 0), -2);
        due("3: wrong what ahead", x.put(0, 4, 0), -1);
        due("3: wrong value ahead", x.put(0, 0, 12), -1);
        x.car(3, 5, 0, 2);
        due("3: no such car", x.put(1, 0, 0), -2);
        due("3: no such car", x.put(-1, 0, 0), -2);
        int[][] wrong = {{-1, 0}, {4, 0}, {0, -1}, {0, 12}, {1, 12}, {1, -1}, {2, 2}, {2, -1}, {3, 10}, {3, -1}};
        for (int[] w : wrong) {
            due("3: wrong number", x.put(0, w[0], w[1]), -1);
        }
        due("3: till ahead of from", x.put(0, 1, 2), -3);
        due("3: from behind till", x.put(0, 0, 6), -3);
        due("3: from at till", x.put(0, 0, 5), 3);
        due("3: till at from", x.put(0, 1, 5), 5);
        due("3: seat", x.put(0, 2, 1), 0);
        due("3: flights", x.put(0, 3, 9), 2);
        int[] now = {5, 5, 1, 9};
        for (int what = 0; what < 4; what++) {
            due("3: fact", x.fact(0, what), now[what]);
        }
    }

    private static void promise04Fact() {
        CoinsWarden x = new CoinsWarden();
        due("4: no car", x.fact(0, 0), NONE);
        x.car(1, 2, 0, 4);
        x.car(5, 6, 1, 8);
        int[] facts = {1, 2, 0, 4, 5, 6, 1, 8};
        for (int n = 0; n < 8; n++) {
            due("4: fact", x.fact(n / 4, n % 4), facts[n]);
        }
        due("4: what", x.fact(0, 4), NONE);
        due("4: what", x.fact(0, -1), NONE);
        due("4: car", x.fact(2, 0), NONE);
        due("4: car", x.fact(-1, 0), NONE);
        due("4: not refused", x.count(6), 0);
    }

    private static void promise05Terms() {
        CoinsWarden x = new CoinsWarden();
        int[] first = {1, 1, 40, 0, 12, 1, 20, 0};
        int[] low = {1, 1, 0, 0, 1, 0, 0, 0};
        int[] high = {9, 4, 99, 9, 12, 3, 99, 9};
        for (int what = 0; what < 8; what++) {
            due("5: too low", x.terms(what, low[what] - 1), -1);
            due("5: too high", x.terms(what, high[what] + 1), -1);
            due("5: lowest", x.terms(what, low[what]), first[what]);
            due("5: highest", x.terms(what, high[what]), low[what]);
            due("5: kept", x.count(12 + what), high[what]);
        }
        due("5: what", x.terms(8, 1), -1);
        due("5: what", x.terms(-1, 1), -1);
        due("5: refused", x.count(6), 18);
    }

    private static void promise06Feed() {
        CoinsWarden x = new CoinsWarden();
        for (int n = 20; n <= 400; n += 20) {
            due("6: feed", x.feed(-1, 0, 1, 2, 3), n);
        }
        due("6: full", x.feed(0, 0, 0, 0, 0), NONE);
        due("6: still full", x.count(5), 400);
        x.end(381);
        due("6: 401 are too many", x.feed(0, 0, 0, 0, 0), NONE);
        x.end(380);
        due("6: 400 are not", x.feed(0, 0, 0, 0, 0), 400);
        CoinsWarden y = new CoinsWarden();
        y.feed(0x01020103, 0x04050006, 0x00000000, 0x0b0b0109, 0xffffffff);
        due("6: four cars", y.row(), 4);
        due("6: highest byte first", y.fact(0, 0), 1);
        due("6: lowest byte last", y.fact(1, 3), 6);
        due("6: fourth number", y.fact(3, 0), 11);
        due("6: bytes above 127 are no cars", y.tar(), 1);
    }

    private static void promise07End() {
        CoinsWarden x = new CoinsWarden();
        due("7: empty", x.end(0), 0);
        due("7: not so many", x.end(1), NONE);
        x.feed(0, 0, 0, 0, 0);
        due("7: too many", x.end(21), NONE);
        due("7: below 0", x.end(-1), NONE);
        due("7: all", x.end(20), 20);
        due("7: some", x.end(7), 7);
        due("7: kept", x.count(5), 7);
        due("7: no more", x.end(8), NONE);
    }

    private static void promise08And09Row() {
        CoinsWarden x = new CoinsWarden();
        due("8: empty", x.row(), -6);
        due("8: status", x.status(), -6);
        Check.feed(x, new byte[] {0, 11, 1, 9, 2, 1, 0, 0, 3, 3, 0, 0, 4, 4, 2, 0, 5, 5, 0, 10, 6, 12, 0, 0, 7});
        due("8: cars", x.row(), 2);
        due("9: tar", x.tar(), 5);
        due("8: the tape is empty", x.count(5), 0);
        due("8: facts", x.fact(1, 0), 3);
        due("8: empty again", x.row(), -6);
        due("9: the tar of the latest that was read", x.tar(), 5);
        Check.feed(x, new byte[24]);
        due("8: room for four", x.row(), 4);
        due("9: no room is tar", x.tar(), 2);
        Check.feed(x, new byte[3]);
        due("8: none", x.row(), 0);
        CoinsWarden y = new CoinsWarden();
        Check.feed(y, new byte[] {1, 2, 0, 3});
        due("8: one that just ends with the tape", y.row(), 1);
        due("9: no tar", y.tar(), 0);
        due("8: that is not refused", x.status(), 0);
        due("9: one", x.tar(), 1);
    }

    private static String many(String s, int n, String between) {
        StringBuilder b = new StringBuilder(s);
        for (int i = 1; i < n; i++) {
            b.append(between).append(s);
        }
        return b.toString();
    }

    private static void lawFault(String text, int fault) {
        CoinsWarden x = new CoinsWarden();
        due("10: " + text, Check.law(x, text), fault == NONE ? 0 : -6);
        due("12: " + text, x.fault(), fault);
        due("10: the tape is empty", x.count(5), 0);
        due("10: laws", x.count(1), fault == NONE ? 1 : 0);
    }

    private static void promise10And12Law() {
        lawFault("", 0);
        lawFault("   ", 3);
        lawFault("spares", NONE);
        lawFault("  spares  ", NONE);
        lawFault("comes5if slot=1", NONE);
        lawFault("comes 1000", NONE);
        lawFault("comes 0001000", NONE);
        lawFault("comes 1001", 6);
        lawFault("comes 99999999999999999999", 6);
        lawFault("comes  ", 7);
        lawFault("Comes 1", 0);
        lawFault("comes 1 if slot", 15);
        lawFault("comes 1 if slot < 1 < 2", 20);
        lawFault("comes 1 if (slot < 1", 20);
        lawFault("comes 1 if (slot) < 1", 16);
        lawFault("comes (1)", 6);
        lawFault("comes [1 + 2", 12);
        lawFault("comes [1 < 2]", 9);
        lawFault("comes -1", 6);
        lawFault("comes 1 if not not (not slot = 1 or car = 2) and stay > rain % wardens", NONE);
        lawFault("comes 1 if slot = 1 not", 20);
        lawFault("comes more", 6);
        lawFault("throw 1", 0);
        lawFault("spares if mood = 1;", 19);
        lawFault(many("spares", 12, ";"), NONE);
        lawFault(many("spares", 13, ";"), 84);
        lawFault(many("spares", 12, ";") + ";", 84);
        lawFault("comes " + many("1", 50, "+"), NONE);
        lawFault("comes " + many("1", 51, "+"), 106);
        lawFault("comes " + many("1", 26, "+") + ";fines " + many("car", 25, "-"), 160);
        lawFault("comes " + many("[", 8, "") + "1" + many("]", 8, ""), NONE);
        lawFault("comes " + many("[", 9, "") + "1" + many("]", 9, ""), 14);
        lawFault("spares if " + many("(", 4, "") + many("[", 4, "") + "1", 19);
        lawFault("spares if " + many("(", 4, "") + many("[", 5, "") + "1", 18);
        lawFault("spares if " + many("(1=[1])", 20, "and"), NONE);
        lawFault("spares if " + many("not", 96, " ") + "1=1", NONE);
        lawFault("spares if " + many("not", 97, " "), 397);
        lawFault("comes 1\t", 7);
        lawFault("comes 1 \377", 8);
        lawFault("comes slots", 6);
    }

    private static void promise10CutTape() {
        CoinsWarden x = new CoinsWarden();
        Check.feed(x, "comes 12");
        x.end(7);
        due("10: what was cut off is no part of it", x.law(), 0);
        x.force(0);
        due("10: comes 1", x.asks(0, 1, 0, 0), 1);
        Check.feed(x, "comes slotx");
        x.end(10);
        due("10: what was cut off is no part of it", x.law(), 1);
        StringBuilder full = new StringBuilder("comes ");
        while (full.length() < 396) {
            full.append(' ');
        }
        due("10: up to the tape's last byte", Check.law(x, full + "slot"), 2);
        due("10: up to the tape's last byte", Check.law(x, full + "1000"), 3);
        due("10: up to the tape's last byte", Check.law(x, full + "slo;"), -6);
        due("12: there", x.fault(), 396);
    }

    private static void promise10Room() {
        CoinsWarden x = new CoinsWarden();
        for (int n = 0; n < 6; n++) {
            due("10: number", Check.law(x, "spares"), n);
        }
        Check.law(x, "no");
        due("12: not read", x.fault(), NONE);
        due("10: no room", Check.law(x, "no"), -5);
        due("10: the tape is empty", x.count(5), 0);
        due("10: no room ahead of the text", x.law(), -5);
        due("10: laws", x.count(1), 6);
    }

    private static void habitFault(String text, int fault) {
        CoinsWarden x = new CoinsWarden();
        due("11: " + text, Check.habit(x, text), fault == NONE ? 0 : -6);
        due("12: " + text, x.fault(), fault);
        due("11: the tape is empty", x.count(5), 0);
        due("11: habits", x.count(2), fault == NONE ? 1 : 0);
    }

    private static void promise11And12Habit() {
        habitFault("throw slot + left + stay + more + since + coin + per", NONE);
        habitFault("throw 1 if left = 0; throw 2 if more > 3", NONE);
        habitFault("throw", 5);
        habitFault("  ", 2);
        habitFault("throw mood", 6);
        habitFault("spares", 0);
        habitFault("comes 1", 0);
        habitFault("throw if left = 0", 6);
        CoinsWarden x = new CoinsWarden();
        for (int n = 0; n < 6; n++) {
            due("11: number", Check.habit(x, "throw 1"), n);
        }
        due("11: room for laws is another", Check.law(x, "x"), -6);
        due("12: fault", x.fault(), 0);
        due("11: no room", Check.habit(x, "throw"), -5);
        due("12: the latest that was read", x.fault(), 0);
        due("11: the tape is empty", x.count(5), 0);
        due("12: read", Check.law(x, "spares"), 0);
        due("12: none", x.fault(), NONE);
    }

    private static void promise13Force() {
        CoinsWarden x = new CoinsWarden();
        due("13: none", x.force(NONE), NONE);
        due("13: no such", x.force(0), -2);
        due("13: no such", x.force(-2), -2);
        Check.law(x, "comes 1");
        Check.law(x, "comes 2");
        due("13: was none", x.force(1), NONE);
        due("13: by it", x.asks(0, 1, 0, 0), 2);
        due("13: was 1", x.force(0), 1);
        due("13: by the other", x.asks(0, 1, 0, 0), 1);
        due("13: no such", x.force(2), -2);
        due("13: stays", x.count(11), 0);
        due("13: none again", x.force(NONE), 0);
        due("13: without", x.asks(0, 1, 0, 0), 5);
    }

    private static void value(String sum, long want) {
        CoinsWarden x = withLaw("fines " + sum);
        x.car(2, 6, 0, 0);
        x.terms(3, 7);
        x.terms(7, 4);
        x.terms(5, 3);
        due("14: fines " + sum, x.asks(5, 9, 0, 1), want);
    }

    private static void test(String test, long want) {
        CoinsWarden x = withLaw("spares if " + test);
        x.car(2, 6, 0, 0);
        due("14: spares if " + test, x.asks(5, 9, 0, 2), want);
    }

    private static void promise14Asks() {
        value("slot", 5);
        value("since", 9);
        value("rain", 7);
        value("wardens", 3);
        value("car", 0);
        value("stay", 3);
        value("mood", 4);
        value("2 + 3 * 4", 14);
        value("[2 + 3] * 4", 20);
        value("9 - 3 - 2", 4);
        value("40 / 7 * 2", 10);
        value("40 % 7 * 2", 10);
        value("[0 - 7] / 2 + 10", 7);
        value("[0 - 7] % 2 + 10", 9);
        value("7 % [0 - 2] + 10", 11);
        value("100", 99);
        value("0 - 1", 0);
        value("1 / 0", 40);
        value("1 % [rain - 7]", 40);
        value("1000 * 1000 * 1000 / 1000 / 1000 / 100", 10);
        value("[1000 * 1000 * 1000 + 1] / 1000 / 1000 / 100", 40);
        value("[0 - 1000 * 1000 * 1000] / 1000 / 1000 / 100 + 60", 50);
        value("[0 - 1000 * 1000 * 1000 - 1] + 50", 40);
        value("3; fines 5 / 0; spares", 3);
        value("3; fines 4 if slot = 5; fines 6 if slot = 4", 4);
        value("3; fines 7 if 1 / 0 = 1", 3);
        test("1 = 1 or 1 / 0 = 1", 1);
        test("1 / 0 = 1 or 1 = 1", 0);
        test("not (1 = 2 and 1 / 0 = 1)", 1);
        test("not (1 / 0 = 1 and 1 = 2)", 0);
        test("not 1 / 0 = 1", 0);
        test("1 = 2 or 1 / 0 = 1", 0);
        test("1 = 1 or 1 = 2 and 1 = 2", 1);
        test("(1 = 1 or 1 = 2) and 1 = 2", 0);
        test("not 1 = 1 or 1 = 1", 1);
        test("not (1 = 1 or 1 = 1)", 0);
        test("2 > 1 and 1 < 2 and not 1 < 1 and not 1 > 1", 1);
        test("not not 1 = 1", 1);
        test("1 = 2 and 1 = 1 or 1 = 1", 1);
    }

    private static void promise14Comes() {
        CoinsWarden x = withLaw("comes slot - 3; comes 1000 if since = 12; fines 1; comes car * stay if since = 2;"
            + "spares if slot = 3; spares if slot = 5");
        due("14: below 0", x.asks(1, 1, 0, 0), 0);
        due("14: slot", x.asks(11, 1, 99, 0), 8);
        due("14: above 10", x.asks(0, 12, -7, 0), 10);
        due("14: car and stay are -1", x.asks(9, 2, 0, 0), 1);
        due("14: no car", x.asks(3, 1, 0, 1), NONE);
        x.car(3, 5, 0, 0);
        due("14: ahead of its stay", x.asks(2, 1, 0, 1), NONE);
        due("14: behind its stay", x.asks(6, 1, 0, 2), NONE);
        due("14: fines", x.asks(3, 1, 0, 1), 1);
        due("14: spared by one that is not the last", x.asks(3, 1, 0, 2), 1);
        due("14: not spared", x.asks(4, 1, 0, 2), 0);
        due("14: spared", x.asks(5, 1, 0, 2), 1);
        due("14: no such car", x.asks(3, 1, 1, 1), NONE);
        due("14: no such car", x.asks(3, 1, -1, 1), NONE);
        due("14: slot", x.asks(12, 1, 0, 0), NONE);
        due("14: slot", x.asks(-1, 1, 0, 0), NONE);
        due("14: since", x.asks(3, 0, 0, 0), NONE);
        due("14: since", x.asks(3, 13, 0, 0), NONE);
        due("14: what", x.asks(3, 1, 0, 3), NONE);
        due("14: what", x.asks(3, 1, 0, -1), NONE);
        x.force(NONE);
        due("14: fine without", x.asks(3, 1, 0, 1), 40);
        due("14: comes without", x.asks(3, 1, 0, 0), 5);
        due("14: spares without", x.asks(3, 1, 0, 2), 0);
    }

    private static void promise15Likely() {
        CoinsWarden x = withLaw("comes since");
        x.terms(4, 2);
        due("15: at first by SINCE", x.likely(0, 0), ONE * 2 / 10);
        due("15: then by what he did", x.likely(1, 0), ONE * (2 * 1 + 8 * 3) / 100);
        due("15: none till then", x.likely(0, 1), ONE * 8 / 10);
        due("15: none till then", x.likely(2, 1), ONE * 8 * 7 * 6 / 1000);
        due("15: none of all", x.likely(11, 1), 0);
        x.terms(4, 12);
        x.force(NONE);
        due("15: exactly", x.likely(11, 1), ONE / 4096);
        due("15: the last slot", x.likely(11, 0), ONE / 2);
        due("15: slot", x.likely(12, 0), NONE);
        due("15: slot", x.likely(-1, 1), NONE);
        due("15: what", x.likely(0, 2), NONE);
        due("15: what", x.likely(0, -1), NONE);
        CoinsWarden y = withLaw("comes 1");
        due("15: nine of ten, twelve times", y.likely(11, 1), 282_429_536_481L);
    }

    private static void promise16And17AtFirst() {
        CoinsWarden x = new CoinsWarden();
        due("16: no car", x.cost(0, 0), NONE);
        due("17: no car", x.coins(0, 0), NONE);
        x.car(4, 9, 0, 9);
        x.terms(1, 2);
        x.terms(0, 3);
        due("16: none", x.cost(0, 0), 120 * ONE);
        due("16: one buys two", x.cost(0, 1), 83 * ONE);
        due("16: three", x.cost(0, 3), 9 * ONE);
        due("16: twelve", x.cost(0, 12), 36 * ONE);
        due("16: thirteen", x.cost(0, 13), NONE);
        due("16: below 0", x.cost(0, -1), NONE);
        due("16: car", x.cost(1, 0), NONE);
        due("16: car", x.cost(-1, 0), NONE);
        due("17: best", x.coins(0, 0), 3);
        due("17: alone", x.coins(0, 1), 1);
        x.terms(2, 3);
        due("17: the lowest of four", x.coins(0, 0), 0);
        due("17: four", x.coins(0, 1), 4);
        due("17: what", x.coins(0, 2), NONE);
        due("17: what", x.coins(0, -1), NONE);
        due("17: car", x.coins(1, 0), NONE);
        CoinsWarden y = withLaw("comes 10 if slot = 11; comes 1 if slot < 11; fines since; spares if stay = 0");
        y.car(10, 11, 0, 0);
        y.terms(4, 1);
        long fines = 0;
        long notSince = ONE;
        for (int since = 1; since < 12; since++) {
            long came = notSince / 10;
            fines += came * since;
            notSince -= came;
        }
        due("16: fines by since on the mean", y.cost(0, 0), fines + notSince * 12);
        due("16: the first slot is spared", y.cost(0, 1), y.cost(0, 0) + ONE);
    }

    private static void promise18And19Down() {
        CoinsWarden x = withLaw("comes 10 if slot = 0 or slot = 4; comes 0 if not slot = 0 and not slot = 4");
        due("18: no car", x.least(0, 0), NONE);
        x.car(0, 4, 0, 4);
        due("18: five in the first", x.least(0, 0), 5 * ONE);
        due("19: five at once", x.down(0, 0), 5);
        due("19: none then", x.down(0, 4), 0);
        x.put(0, 3, 3);
        due("18: as much by going down", x.least(0, 0), 5 * ONE);
        due("19: so the row that begins with one is the first", x.down(0, 0), 1);
        due("19: and one more", x.down(0, 4), 1);
        x.put(0, 3, 2);
        due("18: less by going down", x.least(0, 0), 4 * ONE);
        due("19: one", x.down(0, 0), 1);
        due("19: none", x.down(0, 3), 0);
        due("19: one more", x.down(0, 4), 1);
        due("19: behind", x.down(0, 5), NONE);
        due("19: ahead", x.down(0, -1), NONE);
        due("19: car", x.down(1, 0), NONE);
        due("18: what", x.least(0, 4), NONE);
        due("18: what", x.least(0, -1), NONE);
        due("18: car", x.least(1, 0), NONE);
        due("18: car", x.least(-1, 0), NONE);
    }

    private static void promise18To20Twelve() {
        CoinsWarden x = withLaw("comes 10");
        x.car(0, 11, 0, 9);
        due("18: twelve at first", x.least(0, 0), 12 * ONE);
        due("18: twelve at first", x.least(0, 1), 12 * ONE);
        due("18: twelve at first, or one each time with flights", x.least(0, 2), 12 * ONE);
        due("19: twelve", x.down(0, 0), 12);
        for (int i = 1; i < 12; i++) {
            due("19: then none", x.down(0, i), 0);
        }
        due("20: twelve", x.run(0, 0, 12, 0), 12);
        due("20: what is not paid yet", x.run(0, 0, 12, 2), 10);
        due("20: no more than one stays", x.run(0, 4, 1, 0), 8);
        x.terms(1, 4);
        due("20: three buy twelve", x.run(0, 0, 1, 0), 3);
        due("20: left till the end", x.run(0, 4, 1, 8), 0);
    }

    private static void promise18And20Run() {
        CoinsWarden x = withLaw("comes 5 if slot = 0; comes 10 if slot > 0 and since > 1; comes 0 if slot > 0 and since = 1;"
            + "spares if slot = 0");
        x.car(0, 1, 0, 1);
        x.terms(2, 10);
        x.terms(0, 4);
        due("18: down must pay half", x.least(0, 0), 5 * ONE);
        due("18: run pays only when he did not come", x.least(0, 1), ONE * 5 / 2);
        due("18: soup", x.least(0, 3), ONE * 5 / 2);
        due("20: he came", x.run(0, 1, 1, 0), 0);
        due("20: he did not", x.run(0, 1, 2, 0), 1);
        due("20: paid", x.run(0, 1, 2, 1), 0);
        due("20: the first slot", x.run(0, 0, 12, 0), 0);
        due("20: slot", x.run(0, 2, 1, 0), NONE);
        due("20: slot", x.run(0, -1, 1, 0), NONE);
        due("20: since", x.run(0, 1, 0, 0), NONE);
        due("20: since", x.run(0, 1, 13, 0), NONE);
        due("20: left", x.run(0, 1, 1, -1), NONE);
        due("20: left", x.run(0, 1, 1, 13), NONE);
        due("20: left", x.run(0, 1, 1, 12), 0);
        due("20: car", x.run(1, 1, 1, 0), NONE);
        due("20: car", x.run(-1, 1, 1, 0), NONE);
        x.put(0, 2, 1);
        due("18: seat or not", x.least(0, 1), ONE * 5 / 2);
    }

    private static void promise18Warned() {
        CoinsWarden x = withLaw("comes 1");
        x.car(3, 3, 0, 2);
        x.terms(0, 9);
        x.terms(2, 99);
        due("18: unwarned", x.least(0, 1), 9 * ONE);
        due("18: warned, with flights in the first slot too", x.least(0, 2), ONE * 11 / 10);
        due("20: nobody warns in RUN, though WARNED was asked ahead", x.run(0, 3, 12, 0), 1);
        x.terms(2, 10);
        due("18: the fine is less than coin and flights", x.least(0, 2), ONE);
        CoinsWarden y = withLaw("comes 10");
        y.car(0, 3, 0, 1);
        y.terms(1, 4);
        due("18: what is paid then is not asked again", y.least(0, 2), ONE);
        y.put(0, 1, 4);
        due("18: one goes on from what was thrown", y.least(0, 2), 2 * ONE);
    }

    private static void promise21And22Habits() {
        CoinsWarden x = new CoinsWarden();
        due("22: no car", x.advice(0), NONE);
        x.car(2, 5, 1, 3);
        due("22: no habit", x.advice(0), NONE);
        due("21: no habit", x.habits(0, 0), NONE);
        Check.habit(x, "throw 20");
        Check.habit(x, "throw 1 if left = 0");
        Check.habit(x, "throw more if stay = 0");
        Check.habit(x, "throw 4 if slot = 2; throw 1 / 0");
        Check.habit(x, "throw 0 - 5");
        due("21: twelve at most each time", x.habits(0, 0), (48 + 9) * ONE);
        due("21: one each time", x.habits(0, 1), (4 + 9) * ONE);
        due("21: at first", x.habits(0, 2), 4 * ONE);
        due("21: a broken clause does not hold", x.habits(0, 3), 4 * ONE);
        due("21: none at least", x.habits(0, 4), 80 * ONE);
        due("21: habit", x.habits(0, 5), NONE);
        due("21: habit", x.habits(0, -1), NONE);
        due("21: car", x.habits(1, 0), NONE);
        due("21: car", x.habits(-1, 0), NONE);
        due("22: the lowest of the best", x.advice(0), 2);
        due("22: car", x.advice(1), NONE);
        due("22: car", x.advice(-1), NONE);
    }

    private static void promise21Seat() {
        CoinsWarden x = withLaw("comes 0; comes 10 if slot > 3");
        x.car(2, 5, 1, 3);
        Check.habit(x, "throw 2 if since = 12");
        due("21: since with a seat", x.habits(0, 0), (2 + 5 + 5) * ONE);
        x.put(0, 2, 0);
        due("21: -1 without", x.habits(0, 0), 80 * ONE);
        Check.habit(x, "throw 2 if since = 0 - 1 and more = 2");
        due("21: -1 without", x.habits(0, 1), 5 * ONE);
    }

    private static void promise21Words() {
        CoinsWarden x = new CoinsWarden();
        x.car(2, 3, 0, 0);
        x.terms(2, 0);
        x.terms(0, 3);
        x.terms(1, 4);
        String[] words = {"slot", "left", "stay", "more", "since + 1", "coin", "per"};
        int[] coins = {2 + 3, 0, 0 + 1, 2 + 1, 0, 3 + 3, 4 + 4};
        for (int n = 0; n < 6; n++) {
            Check.habit(x, "throw " + words[n]);
            due("21: " + words[n], x.habits(0, n), 3 * coins[n] * ONE);
        }
        CoinsWarden y = new CoinsWarden();
        y.car(0, 1, 0, 0);
        y.terms(1, 4);
        y.terms(2, 0);
        Check.habit(y, "throw per + left - 3");
        due("21: left, per", y.habits(0, 0), (1 + 4) * ONE);
        Check.habit(y, "throw 12 if stay = 0; throw left if stay = 1");
        due("21: twelve at most are paid", y.habits(0, 1), (12 + 11) * ONE);
    }

    private static void promise23Chalk() {
        CoinsWarden x = new CoinsWarden();
        due("23: all rounds, limit 1", x.chalk(4095, 0, 1, 0), 11);
        due("23: moves in each", x.chalk(4095, 4095, 1, 0), 0);
        due("23: eleven moves", x.chalk(4095, 0, 1, 1), 11);
        due("23: all but the first", x.chalk(4095, 0, 1, 2), 4094);
        due("23: twelve can't be reached", x.chalk(4095, 0, 12, 0), 0);
        due("23: eleven can", x.chalk(4095, 0, 11, 0), 1);
        due("23: lowest", x.chalk(4095, 0, 11, 2), 2);
        due("23: the told ones aside", x.chalk(4095, 4095, 11, 1), 1);
        due("23: the told ones aside", x.chalk(4095, 4095, 11, 2), 2);
        due("23: a mark is not made anew below the limit", x.chalk(0b1101, 0, 3, 0), 1);
        due("23: a move ahead of the first round", x.chalk(0b1101, 1, 3, 0), 1);
        due("23: a move ahead of his coming", x.chalk(0b1101, 8, 3, 0), 0);
        due("23: a move behind his coming", x.chalk(0b1101, 16, 3, 0), 1);
        due("23: anew when fined", x.chalk(0b10010010001, 0, 4, 0), 2);
        int[][] wrong = {{4096, 0, 1, 0}, {-1, 0, 1, 0}, {0, 4096, 1, 0}, {0, -1, 1, 0}, {0, 0, 0, 0}, {0, 0, 13, 0},
            {0, 0, 1, 3}, {0, 0, 1, -1}};
        for (int[] w : wrong) {
            due("23: wrong", x.chalk(w[0], w[1], w[2], w[3]), NONE);
        }
        for (int rounds = 0; rounds < 4096; rounds += 13) {
            int limit = 1 + rounds % 5;
            due("23: fewest", x.chalk(rounds, 0, limit, 2), Naive.chalkMoves(rounds, limit));
        }
    }

    private static void promise24And25Places() {
        CoinsWarden x = new CoinsWarden();
        due("25: none", x.clear(), 0);
        int[][] wrong = {{-1, 5}, {5, 5}, {6, 5}, {99, 100}, {99, 99}, {0, 100}, {0, 0}};
        for (int[] w : wrong) {
            due("24: wrong", x.place(w[0], w[1]), -1);
        }
        for (int n = 0; n < 6; n++) {
            due("24: place", x.place(98 - n, 99), n);
        }
        due("24: no room", x.place(0, 1), -5);
        due("24: wrong ahead of no room", x.place(1, 1), -1);
        due("24: places", x.count(3), 6);
        due("25: six", x.clear(), 6);
        due("25: status stays", x.status(), -1);
        due("25: none", x.count(3), 0);
        due("24: anew", x.place(0, 99), 0);
    }

    private static void promise26Game() {
        CoinsWarden x = new CoinsWarden();
        due("26: no places", x.game(5, 0), NONE);
        x.place(20, 30);
        due("26: one place", x.game(99, 0), 30);
        due("26: one place", x.game(99, 1), 1);
        due("26: he looks at it", x.game(99, 3), 1);
        due("26: he looks at it", x.game(99, 4), 1);
        x.place(40, 99);
        due("26: one would not stand there", x.game(99, 0), 30);
        due("26: he does not look there", x.game(99, 5), 0);
        due("26: in lowest terms", x.game(99, 6), 1);
        due("26: no third", x.game(99, 7), NONE);
        due("26: toll as high as the value", x.game(30, 2), 1);
        due("26: toll above the value", x.game(31, 2), 0);
        due("26: toll", x.game(7, 0), 7);
        due("26: toll", x.game(7, 1), 1);
        due("26: the chance is that without toll", x.game(7, 3), 1);
        due("26: toll too high", x.game(100, 0), NONE);
        due("26: toll below 0", x.game(-1, 0), NONE);
        due("26: what", x.game(0, -1), NONE);
        due("26: no toll at all", x.game(0, 0), 0);
        due("26: no toll at all", x.game(0, 1), 1);
        x.clear();
        for (int d : new int[] {99, 98, 97, 95, 89, 83}) {
            x.place(0, d);
        }
        long product = 99L * 98 * 97 * 95 * 89 * 83;
        long lower = product / 99 + product / 98 + product / 97 + product / 95 + product / 89 + product / 83;
        long g = java.math.BigInteger.valueOf(product).gcd(java.math.BigInteger.valueOf(lower)).longValueExact();
        due("26: far down", x.game(99, 0), product / g);
        due("26: far down", x.game(99, 1), lower / g);
    }

    private static void promise27Town() {
        CoinsWarden x = withLaw("comes wardens * 2");
        x.car(0, 0, 0, 0);
        x.terms(0, 9);
        x.terms(5, 2);
        x.terms(6, 1);
        due("27: the coin is less than the fine", x.town(0), 7 * ONE);
        x.terms(2, 10);
        due("27: the fine is less", x.town(0), 2 * ONE);
        due("27: the most", x.town(1), 9 * ONE - ONE);
        due("27: one warden is enough", x.town(2), 1);
        due("27: by the lowest fine", x.town(3), 45);
        x.terms(6, 0);
        due("27: the fewest wardens", x.town(2), 1);
        due("27: the most", x.town(1), 9 * ONE);
        due("27: as it was", x.count(14), 10);
        due("27: as it was", x.count(17), 2);
        due("27: what", x.town(4), NONE);
        due("27: what", x.town(-1), NONE);
        CoinsWarden z = withLaw("comes 0; comes 1 if wardens = 3");
        z.car(0, 0, 0, 0);
        z.terms(0, 9);
        z.terms(6, 3);
        due("27: three wardens get no more than none", z.town(2), 0);
        z.terms(6, 0);
        due("27: three wardens", z.town(2), 3);
        due("27: fine 90", z.town(3), 90);
        z.put(0, 1, 1);
        z.terms(1, 4);
        due("27: one coin for both", z.town(3), 45);
        z.put(0, 1, 0);
        due("27: up to the highest fine", Check.law(z, "comes 0; comes 1 if wardens = 3; spares if not slot = 11"), 1);
        z.force(1);
        z.put(0, 1, 11);
        z.terms(1, 1);
        due("27: fine 99", z.town(3), 99);
        due("27: by the fine alone", z.town(1), 99 * ONE / 10);
        CoinsWarden y = withLaw("fines 3");
        y.car(0, 0, 0, 0);
        y.car(1, 2, 0, 0);
        due("27: all cars", y.town(0), (1 + 2 - 20) * ONE);
        due("27: told fines aside from FINE", y.town(3), 0);
    }

    private static void promise28And29Slips() {
        CoinsWarden x = new CoinsWarden();
        due("29: none", x.undo(), -3);
        int[][] wrong = {{12, 0}, {-1, 0}, {0, 2}, {0, -1}};
        for (int[] w : wrong) {
            due("28: wrong", x.slip(w[0], w[1]), -1);
        }
        for (int slot = 11; slot >= 0; slot--) {
            due("28: slip", x.slip(slot, slot % 2), 12 - slot);
        }
        due("28: told", x.slip(4, 1), -3);
        due("28: wrong ahead of told", x.slip(4, 2), -1);
        due("28: slips", x.count(4), 12);
        due("29: the latest", x.undo(), 0);
        due("29: the one ahead", x.undo(), 1);
        due("28: again", x.slip(0, 1), 11);
        due("29: it", x.undo(), 0);
        due("29: slips", x.count(4), 10);
    }

    private static void promise30To32Fits() {
        CoinsWarden x = new CoinsWarden();
        due("30: none", x.fits(NONE), ONE);
        Check.law(x, "comes 2");
        Check.law(x, "comes 8");
        Check.law(x, "comes 8");
        due("31: none ahead of laws", x.which(), NONE);
        x.slip(0, 1);
        x.slip(5, 1);
        due("30: without", x.fits(NONE), ONE / 4);
        due("30: by 0", x.fits(0), ONE * 4 / 100);
        due("30: by 1", x.fits(1), ONE * 64 / 100);
        due("30: no such", x.fits(3), NONE);
        due("30: no such", x.fits(-2), NONE);
        due("31: the lowest", x.which(), 1);
        due("32: without a law in force", x.went(3), ONE / 8);
        x.force(0);
        due("32: by the law in force", x.went(3), ONE * 8 / 1000);
        due("32: told", x.went(0), ONE * 4 / 100);
        due("32: slot", x.went(12), NONE);
        due("32: slot", x.went(-1), NONE);
        x.slip(3, 0);
        due("32: told that he did not", x.went(3), 0);
        CoinsWarden y = new CoinsWarden();
        Check.law(y, "comes since");
        y.terms(4, 3);
        y.slip(1, 1);
        due("30: by what he did ahead", y.fits(0), ONE * (3 * 1 + 7 * 4) / 100);
    }

    private static void promise33And34Day() {
        CoinsWarden x = new CoinsWarden();
        due("34: no day", x.drawn(0, 3), NONE);
        due("33: seed", x.day(-1, NONE), -1);
        due("33: seed", x.day(1_000_001, NONE), -1);
        due("33: habit", x.day(0, 0), -2);
        due("33: habit", x.day(0, -2), -2);
        due("33: seed ahead of habit", x.day(-1, 0), -1);
        due("34: still none", x.drawn(0, 3), NONE);
        int s = 1_000_000;
        int often = 0;
        int[] came = new int[12];
        for (int slot = 0; slot < 12; slot++) {
            s = (int) ((s * 1103L + 12345) % 1_000_003);
            came[slot] = s % 10 < 5 ? 1 : 0;
            often += came[slot];
        }
        x.car(0, 11, 0, 0);
        due("33: day", x.day(1_000_000, NONE), often);
        for (int slot = 0; slot < 12; slot++) {
            due("34: came", x.drawn(slot, 3), came[slot]);
        }
        due("34: spent", x.drawn(0, 0), 12);
        due("34: fined", x.drawn(0, 1), 0);
        due("34: coins", x.drawn(0, 2), 12);
        x.car(1, 1, 0, 0);
        due("34: that one was not there", x.drawn(1, 0), NONE);
        due("34: car", x.drawn(-1, 0), NONE);
        due("34: slot", x.drawn(12, 3), NONE);
        due("34: slot", x.drawn(-1, 3), NONE);
        due("34: what", x.drawn(0, 4), NONE);
        due("34: what", x.drawn(0, -1), NONE);
        due("33: refused", x.day(5, 0), -2);
        due("34: the latest that was drawn", x.drawn(0, 2), 12);
    }

    private static void promise33SixCars() {
        CoinsWarden x = new CoinsWarden();
        for (int n = 0; n < 6; n++) {
            x.car(n, 2 * n, 0, 0);
        }
        x.day(0, NONE);
        for (int n = 0; n < 6; n++) {
            due("34: all slots are paid at first", x.drawn(n, 2), n + 1);
        }
        due("34: car", x.drawn(6, 2), NONE);
        x.clear();
        x.image(0);
        due("36: back", x.back(0), 0);
        due("34: the day stays", x.drawn(5, 0), 6);
    }

    private static void promise33Habit() {
        CoinsWarden x = withLaw("comes 10 if since > 1; comes 0 if since = 1; fines stay; spares if slot = 6");
        Check.habit(x, "throw 2 if slot = 3 or stay = 0");
        x.car(1, 8, 0, 7);
        x.terms(4, 1);
        due("33: each other slot", x.day(0, 0), 6);
        due("34: came", x.drawn(1, 3), 1);
        due("34: did not", x.drawn(0, 3), 0);
        due("34: paid: 2, then 2 and 7, fines 4", x.drawn(0, 0), 2 + 9 + 4 + 6);
        due("34: fined in 5 and 7", x.drawn(0, 1), 2);
        due("34: coins", x.drawn(0, 2), 4);
        x.terms(4, 2);
        due("33: each other slot", x.day(0, 0), 6);
        due("34: paid: in 6 he spares, in 8 he fines 7", x.drawn(0, 0), 2 + 9 + 7);
        due("34: fined once", x.drawn(0, 1), 1);
    }

    /** So many of each kind: no two numbers alike, so that none can stand for another one. */
    private static void bringSoMany(CoinsWarden x, int... many) {
        for (int n = 0; n < 6; n++) {
            if (n < many[0]) {
                x.car(n, n + 5, n % 2, n);
            }
            if (n < many[1]) {
                Check.law(x, "comes " + (n + 1));
            }
            if (n < many[2]) {
                Check.habit(x, "throw " + (n + 3));
            }
            if (n < many[3]) {
                x.place(n, 50 + n);
            }
            if (n < many[4]) {
                x.slip(11 - n, n % 2);
            }
        }
    }

    private static void promise36EachKind() {
        int[][] some = {{1, 2, 3, 4, 5}, {5, 4, 3, 2, 1}, {2, 6, 0, 3, 4}, {6, 0, 5, 1, 2}, {3, 1, 4, 6, 0}};
        for (int[] kept : some) {
            for (int[] now : some) {
                CoinsWarden x = new CoinsWarden();
                x.image(1);
                bringSoMany(x, kept);
                due("35: kept", x.image(0), 0);
                x.back(1);
                bringSoMany(x, now);
                due("36: back", x.back(0), 0);
                for (int what = 0; what < 5; what++) {
                    due("36: as many of kind " + what + " as then", x.count(what), kept[what]);
                }
                due("36: the last law of then", x.force(kept[1] - 1), NONE);
                due("36: the last law of then", x.asks(0, 1, 0, 0), kept[1] == 0 ? 5 : kept[1]);
                x.terms(2, 0);
                due("36: the last habit of then", x.habits(0, kept[2] - 1),
                    kept[2] == 0 ? NONE : 6 * (kept[2] + 2) * ONE + 5 * x.fact(0, 3) * ONE);
                due("36: no habit more", x.habits(0, kept[2]), NONE);
                due("36: no law more", x.fits(kept[1]), NONE);
            }
        }
    }

    private static void promise35And36Images() {
        CoinsWarden x = new CoinsWarden();
        due("35: wrong", x.image(2), -1);
        due("35: wrong", x.image(-1), -1);
        due("36: wrong", x.back(2), -1);
        due("36: wrong", x.back(-1), -1);
        due("36: not kept", x.back(0), -2);
        due("35: empty", x.image(1), 0);
        Check.law(x, "comes 7");
        Check.habit(x, "throw 3");
        x.car(1, 2, 1, 3);
        x.place(1, 2);
        x.slip(4, 1);
        x.terms(2, 50);
        x.force(0);
        due("35: full", x.image(0), 0);
        x.day(5, 0);
        int spent = x.drawn(0, 0);
        due("36: back to the empty one", x.back(1), 0);
        int[] empty = {0, 0, 0, 0, 0};
        for (int what = 0; what < 5; what++) {
            due("36: count", x.count(what), empty[what]);
        }
        due("36: force", x.count(11), NONE);
        due("36: terms", x.count(14), 40);
        due("36: the latest day stays", x.drawn(0, 0), spent);
        Check.law(x, "comes 1");
        x.car(5, 6, 0, 0);
        x.slip(9, 0);
        x.place(7, 8);
        Check.habit(x, "throw 1");
        Check.feed(x, "oops");
        x.law();
        Check.feed(x, new byte[] {1, 2, 3});
        x.row();
        Check.feed(x, "tape");
        due("36: back to the full one", x.back(0), 0);
        for (int what = 0; what < 5; what++) {
            due("36: count", x.count(what), 1);
        }
        due("36: the tape stays", x.count(5), 4);
        due("36: fault stays", x.fault(), 0);
        due("36: tar stays", x.tar(), 1);
        due("36: force", x.asks(0, 1, 0, 0), 7);
        due("36: car", x.fact(0, 0), 1);
        due("36: term", x.count(14), 50);
        due("36: place", x.game(99, 0), 2);
        due("36: slip", x.undo(), 4);
        due("36: habit", x.day(0, 0) >= 0 ? x.drawn(0, 2) : -1, 6);
        x.put(0, 0, 0);
        due("36: images stay", x.back(0), 0);
        due("36: as it was", x.fact(0, 0), 1);
        due("36: slips as they were", x.count(4), 1);
        due("36: refusals are not gone back to", x.count(6), 4);
        due("36: refusals are not gone back to", x.count(10), 1);
    }

    private static void promise37And38Count() {
        CoinsWarden x = new CoinsWarden();
        x.car(9, 8, 0, 0);
        x.car(0, 0, 0, 0);
        x.put(1, 0, 0);
        x.put(0, 0, 1);
        x.row();
        due("37: by -1", x.count(6), 1);
        due("37: by -2", x.count(7), 1);
        due("37: by -3", x.count(8), 1);
        due("37: by -5", x.count(9), 0);
        due("37: by -6", x.count(10), 1);
        for (int n = 0; n < 7; n++) {
            x.place(0, 1);
        }
        due("37: by -5", x.count(9), 1);
        due("38: -5", x.status(), -5);
        x.asks(99, 0, 0, 0);
        x.cost(9, 9);
        x.clear();
        x.feed(0, 0, 0, 0, 0);
        x.end(99);
        x.fits(7);
        due("38: others leave it", x.status(), -5);
        due("37: NONE is no refusal", x.count(6), 1);
        due("38: it was not", x.terms(0, 1) + x.status(), 1);
        due("37: wrong", x.count(20), NONE);
        due("37: wrong", x.count(-1), NONE);
        int[] refused = new int[13];
        refused[0] = x.car(9, 8, 0, 0) - x.status();
        refused[1] = x.put(3, 0, 0) - x.status();
        refused[2] = x.terms(9, 0) - x.status();
        x.end(0);
        refused[3] = x.row() - x.status();
        refused[4] = x.law() - x.status();
        refused[5] = x.habit() - x.status();
        refused[6] = x.force(3) - x.status();
        refused[7] = x.place(9, 8) - x.status();
        refused[8] = x.slip(12, 0) - x.status();
        refused[9] = x.undo() - x.status();
        refused[10] = x.day(-1, 0) - x.status();
        refused[11] = x.image(3) - x.status();
        refused[12] = x.back(0) - x.status();
        for (int n = 0; n < 13; n++) {
            due("38: refused call " + n, refused[n], 0);
        }
        int[] fine = {x.car(0, 0, 0, 0), x.status(), x.put(0, 3, 1), x.status(), x.force(NONE), x.status(),
            x.place(0, 1), x.status(), x.slip(0, 0), x.status(), x.undo(), x.status(), x.day(0, NONE), x.status(),
            x.image(0), x.status(), x.back(0), x.status(), Check.law(x, "spares"), x.status(),
            Check.habit(x, "throw 1"), x.status()};
        for (int n = 1; n < fine.length; n += 2) {
            due("38: allowed call " + n / 2, fine[n], 0);
        }
        Check.feed(x, new byte[1]);
        x.undo();
        x.row();
        due("38: row", x.status(), 0);
    }

    public static void main(String[] args) {
        promise01NewObject();
        promise02Car();
        promise03Put();
        promise04Fact();
        promise05Terms();
        promise06Feed();
        promise07End();
        promise08And09Row();
        promise10And12Law();
        promise10CutTape();
        promise10Room();
        promise11And12Habit();
        promise13Force();
        promise14Asks();
        promise14Comes();
        promise15Likely();
        promise16And17AtFirst();
        promise18And19Down();
        promise18To20Twelve();
        promise18And20Run();
        promise18Warned();
        promise21And22Habits();
        promise21Words();
        promise21Seat();
        promise23Chalk();
        promise24And25Places();
        promise26Game();
        promise27Town();
        promise28And29Slips();
        promise30To32Fits();
        promise33And34Day();
        promise33SixCars();
        promise33Habit();
        promise35And36Images();
        promise36EachKind();
        promise37And38Count();
        CHECK.close("PromisesTest");
    }
}
