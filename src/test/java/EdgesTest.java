import java.io.IOException;
import java.util.List;

/** The last numbers that are still allowed, empty and full: a test for each sentence that names such a bound. */
public final class EdgesTest {
    private static final Check CHECK = new Check();
    private static final long ONE = 1_000_000_000_000L;
    private static final int NONE = CoinsWarden.NONE;

    /** One call with a number that is put in. */
    private interface Taking {
        long with(CoinsWarden x, int value);
    }

    private static void due(String what, long got, long want) {
        CHECK.due(what, got, want);
    }

    private static void so(String what, boolean is) {
        CHECK.due(what, is ? 1 : 0, 1);
    }

    /** From the lowest to the highest number a call is allowed, one below and one above it is not. */
    private static void span(String what, Twin.Way way, int low, int high, Taking call) {
        for (long n = low - 1L; n <= high + 1L; n++) {
            if (n > low + 20L && n < high - 20L) {
                continue;
            }
            CoinsWarden x = Twin.at(way);
            long got = call.with(x, (int) n);
            so(what + " with " + n + ": " + got, got >= 0 == (n >= low && n <= high));
        }
    }

    private static CoinsWarden withLaw(String text) {
        CoinsWarden x = new CoinsWarden();
        due("law " + text, Check.law(x, text), 0);
        due("force", x.force(0), NONE);
        return x;
    }

    private static void newObject(Document doc) {
        String s = doc.sentence("No CARS.");
        CoinsWarden x = new CoinsWarden();
        int[] first = {0, 0, 0, 0, 0, 0, 0, 0, 0, 0, 0, NONE, 1, 1, 40, 0, 12, 1, 20, 0};
        for (int what = 0; what < 20; what++) {
            due(s + " count " + what, x.count(what), first[what]);
        }
        due(s, x.status() + x.tar() + x.clear(), 0);
        due(s, x.fault(), NONE);
        due(s, x.which(), NONE);
        for (int car = 0; car < 6; car++) {
            due(s, x.fact(car, 0), NONE);
            due(s, x.drawn(car, 0), NONE);
            due(s, x.advice(car), NONE);
        }
        due(s + " two objects are apart", x.car(1, 1, 1, 1), 0);
        due(s + " two objects are apart", new CoinsWarden().count(0), 0);
        due(doc.sentence("`NONE = -1`: There is none."), CoinsWarden.NONE, -1);
    }

    /** The counters and the answers hold up to the last call that is promised. */
    private static void lastCall(Document doc) {
        String s = doc.sentence("An object is used for at most 512 calls after it has been made");
        int[] counted = {6, 7, 8, 10};
        Twin.Call[] wrong = {x -> x.car(12, 12, 0, 0), x -> x.back(0), CoinsWarden::undo, CoinsWarden::row};
        for (int n = 0; n < counted.length; n++) {
            CoinsWarden x = new CoinsWarden();
            for (int call = 1; call < 512; call++) {
                wrong[n].on(x);
            }
            due(s, x.count(counted[n]), 511);
        }
        CoinsWarden x = Twin.at(Twin::full);
        for (int call = 0; call < 400; call++) {
            x.place(0, 1);
        }
        due(s, x.count(9), 400);
        CoinsWarden y = Twin.at(Twin::some);
        for (int call = 0; call < 200; call++) {
            y.image(call % 2);
            y.back(call % 2);
        }
        due(s, y.count(0), 3);
    }

    private static void slots(Document doc) {
        String s = doc.sentence("SLOTS 0 .. 11, half hours.");
        span(s + " car from", Twin::empty, 0, 11, (x, n) -> x.car(n, 11, 0, 0));
        span(s + " car till", Twin::empty, 0, 11, (x, n) -> x.car(0, n, 0, 0));
        span(s + " put from", EdgesTest::longCar, 0, 11, (x, n) -> x.put(0, 0, n));
        span(s + " put till", EdgesTest::longCar, 0, 11, (x, n) -> x.put(0, 1, n));
        span(s + " asks", Twin::empty, 0, 11, (x, n) -> x.asks(n, 1, 0, 0));
        span(s + " asks", EdgesTest::longCar, 0, 11, (x, n) -> x.asks(n, 1, 0, 1));
        span(s + " asks", EdgesTest::longCar, 0, 11, (x, n) -> x.asks(n, 1, 0, 2));
        span(s + " likely", Twin::empty, 0, 11, (x, n) -> x.likely(n, 0));
        span(s + " likely", Twin::empty, 0, 11, (x, n) -> x.likely(n, 1));
        span(s + " down", EdgesTest::longCar, 0, 11, (x, n) -> x.down(0, n));
        span(s + " run", EdgesTest::longCar, 0, 11, (x, n) -> x.run(0, n, 1, 0));
        span(s + " slip", Twin::empty, 0, 11, (x, n) -> x.slip(n, 0));
        span(s + " went", Twin::empty, 0, 11, CoinsWarden::went);
        span(s + " drawn", x -> x.day(0, NONE), 0, 11, (x, n) -> x.drawn(n, 3));
    }

    private static void longCar(CoinsWarden x) {
        x.car(0, 11, 0, 0);
    }

    private static void cars(Document doc) {
        String s = doc.sentence("CARS 0 .. 5 (6 at most)");
        CoinsWarden x = new CoinsWarden();
        for (int n = 0; n < 6; n++) {
            due(s, x.count(0), n);
            due(s, x.fact(n, 0), NONE);
            due(s, x.car(n, n + 6, n % 2, 9 - n), n);
        }
        due(s, x.car(0, 0, 0, 0), -5);
        due(s, x.count(0), 6);
        for (int n = 0; n < 6; n++) {
            due(s, x.fact(n, 0) * 1000 + x.fact(n, 1) * 100 + x.fact(n, 2) * 10 + x.fact(n, 3),
                n * 1000 + (n + 6) * 100 + n % 2 * 10 + 9 - n);
        }
        due(s, x.fact(6, 0), NONE);
        span(s + " put", Twin::full, 0, 5, (y, n) -> y.put(n, 3, 0));
        span(s + " fact", Twin::full, 0, 5, (y, n) -> y.fact(n, 0));
        span(s + " cost", Twin::full, 0, 5, (y, n) -> y.cost(n, 0));
        span(s + " coins", Twin::full, 0, 5, (y, n) -> y.coins(n, 0));
        span(s + " least", Twin::full, 0, 5, (y, n) -> y.least(n, 2));
        span(s + " down", Twin::full, 0, 5, (y, n) -> y.down(n, 0));
        span(s + " run", Twin::full, 0, 5, (y, n) -> y.run(n, 5, 1, 0));
        span(s + " asks", Twin::full, 0, 5, (y, n) -> y.asks(6, 1, n, 1));
        span(s + " habits", Twin::full, 0, 5, (y, n) -> y.habits(n, 0));
        span(s + " advice", Twin::full, 0, 5, CoinsWarden::advice);
        span(s + " drawn", Twin::full, 0, 5, (y, n) -> y.drawn(n, 0));
        CoinsWarden z = Twin.at(Twin::full);
        due(s + " there is room again", z.back(1), 0);
        due(s + " there is room again", z.car(0, 0, 0, 0), 3);
    }

    private static void stay(Document doc) {
        String s = doc.sentence("FROM a SLOT TILL another one (not ahead of it; both in it)");
        for (int slot = 0; slot < 12; slot++) {
            int at = slot;
            span(s + " till", Twin::empty, at, 11, (x, n) -> x.car(at, n, 0, 0));
            span(s + " from", Twin::empty, 0, at, (x, n) -> x.car(n, at, 0, 0));
            span(s + " one slot", x -> x.car(at, at, 0, 0), at, at, (x, n) -> x.asks(n, 1, 0, 1));
            span(s + " one slot", x -> x.car(at, at, 0, 0), 0, 0, (x, n) -> x.down(0, n));
            CoinsWarden x = Twin.at(y -> y.car(at, at, 0, 0));
            due(s + " it is fined in one", x.cost(0, 0), 20 * ONE);
            due(s + " one coin is enough", x.cost(0, 1), ONE);
            due(s + " one to the last", x.put(0, 1, 11), at);
            due(s + " both are in it", x.cost(0, 0), (12 - at) * 20 * ONE);
            due(s + " both are in it", x.coins(0, 0), 12 - at);
            due(s + " from the first", x.put(0, 0, 0), at);
            due(s + " all slots", x.cost(0, 0), 240 * ONE);
        }
    }

    private static void putStay(Document doc) {
        String s = doc.sentence("FROM (what 0), TILL (1), SEAT (2), FLIGHTS (3) of a CAR: what it was.");
        Twin.Way car = x -> x.car(4, 7, 1, 6);
        span(s + " from", car, 0, 7, (x, n) -> x.put(0, 0, n));
        span(s + " till", car, 4, 11, (x, n) -> x.put(0, 1, n));
        span(s + " seat", car, 0, 1, (x, n) -> x.put(0, 2, n));
        span(s + " flights", car, 0, 9, (x, n) -> x.put(0, 3, n));
        span(s + " what", car, 0, 3, (x, n) -> x.put(0, n, n < 2 ? 5 : 0));
        int[] was = {4, 7, 1, 6};
        int[] low = {0, 4, 0, 0};
        int[] high = {7, 11, 1, 9};
        for (int what = 0; what < 4; what++) {
            CoinsWarden x = Twin.at(car);
            due(s, x.put(0, what, low[what]), was[what]);
            due(s, x.put(0, what, high[what]), low[what]);
            due(s, x.put(0, what, was[what]), high[what]);
            Twin.alike(CHECK, s, x, Twin.at(car), 0);
        }
        String f = doc.sentence("Of a CAR 0 .. 3 as for put().");
        span(f, car, 0, 3, (x, n) -> x.fact(0, n));
    }

    private static void seatAndFlights(Document doc) {
        String s = doc.sentence("SEAT 1 or 0, FLIGHTS 0 .. 9.");
        span(s + " seat", Twin::empty, 0, 1, (x, n) -> x.car(0, 0, n, 0));
        span(s + " flights", Twin::empty, 0, 9, (x, n) -> x.car(0, 0, 0, n));
        for (int flights = 0; flights <= 9; flights++) {
            CoinsWarden x = new CoinsWarden();
            x.car(0, 1, flights % 2, flights);
            Check.habit(x, "throw 1 if stay = 1");
            due(s, x.habits(0, 0), (20 + 1 + flights) * ONE);
        }
    }

    private static void terms(Document doc) {
        String[] sentences = {"0 COIN 1 .. 9 (1 at first)", "1 PER 1 .. 4 (1)", "2 FINE 0 .. 99 (40)", "3 RAIN 0 .. 9 (0)",
            "4 SINCE 1 .. 12 (12)", "5 WARDENS 0 .. 3 (1)", "6 WAGE 0 .. 99 (20)", "7 MOOD 0 .. 9 (0)"};
        int[] low = {1, 1, 0, 0, 1, 0, 0, 0};
        int[] high = {9, 4, 99, 9, 12, 3, 99, 9};
        int[] first = {1, 1, 40, 0, 12, 1, 20, 0};
        for (int what = 0; what < 8; what++) {
            int term = what;
            String s = doc.sentence(sentences[what]);
            CoinsWarden x = new CoinsWarden();
            due(s, x.count(12 + what), first[what]);
            due(s, x.terms(what, high[what]), first[what]);
            due(s, x.terms(what, low[what]), high[what]);
            due(s, x.count(12 + what), low[what]);
            due(s, x.terms(what, low[what] - 1), -1);
            due(s, x.terms(what, high[what] + 1), -1);
            due(s, x.count(12 + what), low[what]);
            for (int other = 0; other < 8; other++) {
                due(s + " alone", x.count(12 + other), other == what ? low[what] : first[other]);
            }
            span(s, Twin::empty, low[what], high[what], (y, n) -> y.terms(term, n));
        }
        span(doc.sentence("A TERM: what it was."), Twin::empty, 0, 7, (x, n) -> x.terms(n, 1));
    }

    /** What each TERM does at its bounds. */
    private static void termsAtWork(Document doc) {
        String s = doc.sentence("how many SLOTS a coin buys");
        for (int per = 1; per <= 4; per++) {
            CoinsWarden x = Twin.at(EdgesTest::longCar);
            x.terms(1, per);
            due(s, x.cost(0, 1), ONE + (12 - per) * 20 * ONE);
            due(s, x.coins(0, 0), 12 / per);
        }
        CoinsWarden x = Twin.at(EdgesTest::longCar);
        x.terms(0, 9);
        due(s + " the dearest coin", x.cost(0, 12), 108 * ONE);
        x.terms(2, 0);
        due(s + " no fine", x.cost(0, 0), 0);
        due(s + " no fine", x.coins(0, 0), 0);
        x.terms(2, 99);
        due(s + " the highest fine", x.cost(0, 0), 594 * ONE);
        String m = doc.sentence("how many SLOTS ahead of SLOT 0 he came last");
        for (int since = 1; since <= 12; since++) {
            CoinsWarden y = withLaw("comes 10; comes 0 if since = " + since);
            due(m, y.terms(4, since), 12);
            due(m, y.likely(0, 0), 0);
            due(m, y.likely(1, 0), since == 12 ? 0 : ONE);
            CoinsWarden z = withLaw("comes 0; comes 10 if since = " + since);
            z.terms(4, since);
            due(m, z.likely(0, 0), ONE);
            due(m, z.likely(1, 0), since == 1 ? ONE : 0);
        }
    }

    private static void words(Document doc) {
        String s = doc.sentence("Words: \"slot\" | \"since\" | \"rain\" | \"wardens\" | \"car\" | \"stay\" | \"mood\".");
        int[] terms = {3, 5, 7};
        int[] high = {9, 3, 9};
        String[] words = {"rain", "wardens", "mood"};
        for (int n = 0; n < 3; n++) {
            CoinsWarden x = withLaw("comes " + words[n]);
            for (int value = 0; value <= high[n]; value++) {
                x.terms(terms[n], value);
                due(s, x.asks(0, 1, NONE, 0), value);
            }
        }
        CoinsWarden x = withLaw("comes slot; fines slot * 8 + stay; spares if car = 5 and stay = 0");
        for (int n = 0; n < 6; n++) {
            x.car(n, 11, 0, 0);
        }
        for (int slot = 0; slot < 12; slot++) {
            due(s, x.asks(slot, 1, NONE, 0), Math.min(10, slot));
            for (int car = 0; car < 6; car++) {
                due(s, x.asks(slot, 1, car, 1), slot < car ? NONE : slot * 8 + slot - car);
                due(s, x.asks(slot, 1, car, 2), slot < car ? NONE : car == 5 && slot == 5 ? 1 : 0);
            }
        }
    }

    private static void places(Document doc) {
        String s = doc.sentence("PLACES 0 .. 5 (6 at most): LOSS 0 .. 98, CATCH above LOSS, to 99.");
        for (int loss = 0; loss <= 98; loss++) {
            int from = loss;
            CoinsWarden x = new CoinsWarden();
            due(s, x.place(from, from), -1);
            due(s, x.place(from, from + 1), 0);
            due(s, x.place(from, 99), 1);
            due(s, x.place(from, 100), -1);
            due(s, x.game(99, 3), 99 > from + 1 ? 99 - from : 1);
        }
        span(s + " loss", Twin::empty, 0, 98, (x, n) -> x.place(n, 99));
        span(s + " caught", Twin::empty, 1, 99, (x, n) -> x.place(0, n));
        span(s + " caught", Twin::empty, 51, 99, (x, n) -> x.place(50, n));
        CoinsWarden x = new CoinsWarden();
        for (int n = 0; n < 6; n++) {
            due(s, x.count(3), n);
            due(s, x.place(n, 99 - n), n);
        }
        due(s, x.place(0, 1), -5);
        due(s, x.count(3), 6);
        String c = doc.sentence("PLACES are none then: how many there were.");
        due(c, x.clear(), 6);
        due(c, x.count(3), 0);
        due(c, x.clear(), 0);
        due(c, x.status(), -5);
        due(c, x.place(98, 99), 0);
        due(c, x.game(99, 0), 99);
        due(c, x.clear(), 1);
    }

    private static void slips(Document doc) {
        String s = doc.sentence("SLIPS, 12 at most: in a SLOT he came (1) or did not (0).");
        CoinsWarden x = new CoinsWarden();
        for (int n = 0; n < 12; n++) {
            due(s, x.count(4), n);
            due(s, x.slip(n * 5 % 12, n % 2), n + 1);
            due(s, x.slip(n * 5 % 12, n % 2), -3);
            due(s, x.slip(n * 5 % 12, 1 - n % 2), -3);
        }
        due(s, x.count(4), 12);
        due(s, x.fits(NONE), ONE / 4096);
        String w = doc.sentence("in how many he came in a SLOT, too, by the LAW in FORCE.");
        for (int n = 0; n < 12; n++) {
            due(w, x.went(n * 5 % 12), n % 2 == 1 ? ONE / 4096 : 0);
        }
        CoinsWarden v = withLaw("comes 3");
        for (int slot = 0; slot < 12; slot++) {
            due(w + " none is told", v.went(slot), ONE / 10 * 3);
        }
        String u = doc.sentence("The latest SLIP is undone: its SLOT.");
        for (int n = 11; n >= 0; n--) {
            due(u, x.undo(), n * 5 % 12);
            due(u, x.count(4), n);
            due(u, x.fits(NONE), ONE >> n);
        }
        due(u, x.undo(), -3);
        due(u, x.slip(11, 1), 1);
        span(s + " came", Twin::empty, 0, 1, (y, n) -> y.slip(0, n));
    }

    private static void slipsByLaws(Document doc) {
        String s = doc.sentence("by which LAW in most (NONE ahead of LAWS, the lowest)");
        CoinsWarden x = new CoinsWarden();
        due(s + " no slips, no laws", x.which(), NONE);
        due(s + " no slips", x.fits(NONE), ONE);
        for (int n = 0; n < 6; n++) {
            Check.law(x, n < 4 ? "comes 5" : "comes 6");
        }
        due(s + " no slips: all alike", x.which(), NONE);
        x.slip(0, 1);
        due(s + " the lowest of two", x.which(), 4);
        x.undo();
        x.slip(0, 0);
        due(s + " without is as good as four", x.which(), NONE);
        span(s, Twin::full, -1, 5, (y, n) -> y.fits(n) >= 0 ? 0 : -1);
        for (int best = 0; best < 6; best++) {
            CoinsWarden v = new CoinsWarden();
            for (int n = 0; n < 6; n++) {
                Check.law(v, n == best ? "comes 9" : "comes 8");
            }
            v.slip(11, 1);
            due(s + " each of six", v.which(), best);
        }
        String f = doc.sentence("of 1,000,000,000,000 in how many all SLIPS are so, by a LAW (NONE: without one), all else as it is");
        CoinsWarden z = new CoinsWarden();
        Check.law(z, "comes rain + wardens + mood + since");
        z.terms(3, 1);
        z.terms(5, 2);
        z.terms(7, 3);
        z.terms(4, 1);
        z.slip(0, 1);
        due(f, z.fits(0), ONE / 10 * 7);
        due(f + " the law is not in force", z.fits(NONE), ONE / 2);
        due(f + " nor is it by asking", z.count(11), NONE);
        String w = doc.sentence("By which LAW SLIPS are so in most (NONE: without, too).");
        CoinsWarden y = new CoinsWarden();
        Check.law(y, "comes 0");
        Check.law(y, "comes 10");
        y.slip(3, 1);
        due(w, y.fits(0), 0);
        due(w, y.fits(1), ONE);
        due(w, y.which(), 1);
        y.slip(4, 0);
        due(w + " neither", y.which(), NONE);
        due(w + " by none at all", y.fits(1), 0);
    }

    private static void tape(Document doc) {
        String s = doc.sentence("TEXTS are on a TAPE of at most 400 bytes.");
        CoinsWarden x = new CoinsWarden();
        for (int n = 1; n <= 20; n++) {
            due(s, x.count(5), n * 20 - 20);
            due(s, x.feed(0, 0, 0, 0, 0), n * 20);
        }
        due(s, x.feed(0, 0, 0, 0, 0), NONE);
        due(s, x.count(5), 400);
        due(s, x.end(401), NONE);
        due(s, x.end(400), 400);
        due(s, x.end(0), 0);
        due(s, x.end(1), NONE);
        due(s, x.end(0), 0);
        due(s, x.end(-1), NONE);
        String f = doc.sentence("Twenty bytes come behind the TAPE, four of each number, the highest first: how many it has.");
        span(f + " up to 400", EdgesTest::fullTape, 0, 380, EdgesTest::feedBehind);
        String e = doc.sentence("The TAPE has its first n bytes alone: n.");
        span(e, EdgesTest::fullTape, 0, 400, CoinsWarden::end);
    }

    private static long feedBehind(CoinsWarden x, int n) {
        return x.end(n) == n && x.feed(0, 0, 0, 0, 0) == n + 20 && x.count(5) == n + 20 ? 0 : NONE;
    }

    private static void fullTape(CoinsWarden x) {
        for (int n = 0; n < 20; n++) {
            x.feed(0, 0, 0, 0, 0);
        }
    }

    private static void feedBytes(Document doc) {
        String s = doc.sentence("four of each number, the highest first");
        CoinsWarden x = new CoinsWarden();
        x.feed(0x00010203, 0x04050007, 0x08090109, 0x0a0b0000, 0x0b0b0101);
        due(s, x.row(), 4);
        due(s + " seat 2 can't be", x.tar(), 1);
        int[] facts = {4, 5, 0, 7, 8, 9, 1, 9, 10, 11, 0, 0, 11, 11, 1, 1};
        for (int n = 0; n < 16; n++) {
            due(s, x.fact(n / 4, n % 4), facts[n]);
        }
        CoinsWarden y = new CoinsWarden();
        y.feed(0x80000000, 0x00800000, 0x00008000, 0x00000080, -1);
        due(s + " no byte is below 0", y.row(), 0);
        due(s + " no byte is below 0", y.tar(), 5);
        CoinsWarden z = new CoinsWarden();
        z.feed(0x01020003, 0x04050006, 0, 0, 0);
        z.end(5);
        z.feed(0x06010102, 0, 0, 0, 0);
        due(s + " behind what is left", z.count(5), 25);
        due(s + " behind what is left", z.row(), 5);
        due(s + " behind what is left", z.fact(1, 0) * 1000 + z.fact(1, 1) * 100 + z.fact(1, 2) * 10 + z.fact(1, 3), 4611);
        due(s + " behind what is left", z.tar(), 2);
    }

    private static int rowOf(CoinsWarden x, int... bytes) {
        byte[] all = new byte[bytes.length];
        for (int n = 0; n < bytes.length; n++) {
            all[n] = (byte) bytes[n];
        }
        Check.feed(x, all);
        return x.row();
    }

    private static void rows(Document doc) {
        String s = doc.sentence("CARS: FROM, TILL, SEAT, FLIGHTS; one that can't be, one within which the TAPE ends,"
            + " one for which there is no room is TAR: none.");
        int[][] good = {{0, 0, 0, 0}, {0, 11, 1, 9}, {11, 11, 0, 9}, {5, 5, 1, 0}};
        for (int[] g : good) {
            CoinsWarden x = new CoinsWarden();
            due(s, rowOf(x, g), 1);
            due(s, x.tar(), 0);
            for (int what = 0; what < 4; what++) {
                due(s, x.fact(0, what), g[what]);
            }
        }
        int[][] wrong = {{12, 12, 0, 0}, {0, 12, 0, 0}, {1, 0, 0, 0}, {11, 10, 0, 0}, {0, 0, 2, 0}, {0, 0, 0, 10},
            {255, 0, 0, 0}, {0, 255, 0, 0}, {0, 0, 255, 0}, {0, 0, 0, 255}, {128, 128, 0, 0}, {0, 0, 0, 128}};
        for (int[] w : wrong) {
            CoinsWarden x = new CoinsWarden();
            due(s, rowOf(x, w), 0);
            due(s, x.tar(), 1);
            due(s, x.count(0), 0);
            due(s + " it is not refused", x.status(), 0);
        }
        for (int more = 0; more < 4; more++) {
            CoinsWarden x = new CoinsWarden();
            int[] bytes = new int[8 + more];
            due(s + " ends within one", rowOf(x, bytes), 2);
            due(s + " ends within one", x.tar(), more == 0 ? 0 : 1);
            CoinsWarden cut = new CoinsWarden();
            cut.feed(0x01020003, 0x04050106, 0x07080109, 0, 0);
            cut.end(8 + more);
            due(s + " what was cut off is no part of it", cut.row(), 2);
            due(s + " what was cut off is no part of it", cut.tar(), more == 0 ? 0 : 1);
            due(s + " what was cut off is no part of it", cut.count(0), 2);
            due(s + " the tape is empty", x.count(5), 0);
        }
        CoinsWarden x = new CoinsWarden();
        due(s + " tar does not stop it", rowOf(x, 12, 0, 0, 0, 1, 2, 1, 4, 9, 8, 0, 0, 3, 3, 0, 5, 1), 2);
        due(s + " tar does not stop it", x.tar(), 3);
        due(s + " the second is the first car", x.fact(0, 3), 4);
        due(s + " the fourth is the second car", x.fact(1, 3), 5);
    }

    private static void rowRoom(Document doc) {
        String s = doc.sentence("A ROW, the TAPE is empty then: how many CARS came.");
        for (int held = 0; held <= 6; held++) {
            CoinsWarden x = new CoinsWarden();
            for (int n = 0; n < held; n++) {
                x.car(1, 1, 0, 0);
            }
            due(s, rowOf(x, new int[24]), 6 - held);
            due(s, x.tar(), held);
            due(s, x.count(0), 6);
            due(s, x.count(5), 0);
            due(s + " no room is no refusal", x.status(), 0);
            due(s + " no room is no refusal", x.count(9), 0);
            due(s + " numbers go on", x.fact(5, 0), held == 6 ? 1 : 0);
        }
        CoinsWarden x = Twin.at(EdgesTest::fullTape);
        due(s + " the longest", x.row(), 6);
        due(s + " the longest", x.tar(), 94);
        due(s + " the shortest", rowOf(x, 0), 0);
        due(s + " the shortest", x.tar(), 1);
    }

    private static void tar(Document doc) {
        String s = doc.sentence("How much TAR the latest row() had that was not REFUSED (0 ahead of any).");
        CoinsWarden x = new CoinsWarden();
        due(s, x.tar(), 0);
        x.row();
        due(s + " a refused one", x.tar(), 0);
        rowOf(x, 1, 2);
        due(s, x.tar(), 1);
        x.row();
        due(s + " a refused one behind", x.tar(), 1);
        Check.law(x, "no");
        Check.law(x, "spares");
        x.image(0);
        rowOf(x, 1, 1, 9, 9, 2);
        due(s, x.tar(), 2);
        x.back(0);
        due(s + " images don't keep it", x.tar(), 2);
        rowOf(x, 0, 0, 0, 0);
        due(s + " none in the latest", x.tar(), 0);
    }

    private static void force(Document doc) {
        String s = doc.sentence("one is in FORCE (NONE at first: no CLAUSE)");
        CoinsWarden x = new CoinsWarden();
        due(s, x.count(11), NONE);
        due(s, x.force(NONE), NONE);
        due(s, x.status(), 0);
        due(s, x.asks(0, 12, NONE, 0), 5);
        x.car(0, 11, 0, 0);
        due(s, x.asks(0, 12, 0, 1), 40);
        due(s, x.asks(0, 12, 0, 2), 0);
        String f = doc.sentence("A LAW is in FORCE (NONE: none): which was.");
        int was = NONE;
        for (int n = 0; n < 6; n++) {
            due(f + " not yet", x.force(n), -2);
            due(f, Check.law(x, "comes " + n), n);
            due(f + " a new law is not in force by itself", x.count(11), was);
            due(f, x.force(n), was);
            due(f, x.asks(0, 12, NONE, 0), n);
            was = n;
        }
        due(f, x.force(5), 5);
        due(f, x.force(6), -2);
        due(f, x.count(11), 5);
        due(f, x.force(0), 5);
        due(f, x.force(NONE), 0);
        due(f, x.asks(0, 12, NONE, 0), 5);
    }

    private static void asks(Document doc) {
        String s = doc.sentence("In a SLOT, since 1 .. 12, how he COMES (what 0: of ten)");
        span(s + " since", Twin::some, 1, 12, (x, n) -> x.asks(3, n, 0, 0));
        span(s + " since", Twin::some, 1, 12, (x, n) -> x.asks(3, n, 0, 1));
        span(s + " since", Twin::some, 1, 12, (x, n) -> x.asks(3, n, 0, 2));
        span(s + " what", Twin::some, 0, 2, (x, n) -> x.asks(3, 1, 0, n));
        CoinsWarden x = withLaw("comes since; fines since");
        x.car(3, 6, 0, 0);
        for (int since = 1; since <= 12; since++) {
            due(s, x.asks(3, since, 0, 0), Math.min(10, since));
            due(s, x.asks(3, since, 0, 1), since);
        }
        String c = doc.sentence("NONE (the CAR aside for 0).");
        for (int car : new int[] {Integer.MIN_VALUE, -1, 0, 1, 6, Integer.MAX_VALUE}) {
            due(c, x.asks(0, 4, car, 0), 4);
        }
        String there = doc.sentence("of a CAR that is there then what he FINES (1), whether it is SPARED (2: 1, 0).");
        span(there, Twin::some, 1, 4, (y, n) -> y.asks(n, 1, 0, 1));
        span(there, Twin::some, 3, 9, (y, n) -> y.asks(n, 1, 1, 2));
        span(there, Twin::some, 3, 3, (y, n) -> y.asks(n, 1, 2, 1));
        span(there + " car", Twin::some, 0, 2, (y, n) -> y.asks(3, 1, n, 1));
        CoinsWarden z = withLaw("spares; fines 7");
        z.car(0, 0, 0, 0);
        due(there + " what he fines, spared or not", z.asks(0, 1, 0, 1), 7);
        due(there, z.asks(0, 1, 0, 2), 1);
    }

    private static void since(Document doc) {
        String s = doc.sentence("since: how many SLOTS ago he came last, 1: in the one ahead, 12: that many or more; car, stay -1");
        CoinsWarden x = withLaw("comes 0; comes 3 if since = 12; comes 10 if since = 11 or slot = 0");
        x.terms(4, 12);
        due(s + " behind slot 0 it is 1, in slot 11 it is 11", x.likely(11, 0), ONE);
        for (int slot = 1; slot < 11; slot++) {
            due(s, x.likely(slot, 0), 0);
        }
        for (int first = 1; first <= 12; first++) {
            CoinsWarden y = withLaw("comes 0; comes 10 if since = 12");
            y.terms(4, first);
            for (int slot = 0; slot < 12; slot++) {
                int due = (slot - (12 - first)) % 12 == 0 && slot >= 12 - first ? 1 : 0;
                due(s + " twelve behind " + first + " in " + slot, y.likely(slot, 0), due * ONE);
            }
            CoinsWarden z = withLaw("comes 0; comes 10 if since > 12");
            z.terms(4, first);
            for (int slot = 0; slot < 12; slot++) {
                due(s + " never more than 12", z.likely(slot, 0), 0);
            }
        }
        CoinsWarden y = withLaw("comes 7 if car = 0 - 1 and stay = 0 - 1; comes 1 if car > 0 - 1 or stay > 0 - 1");
        y.car(0, 11, 0, 0);
        due(s, y.asks(3, 1, 0, 0), 7);
        due(s, y.likely(0, 0), ONE / 10 * 7);
        String p = doc.sentence("(stay: how many SLOTS it was there ahead)");
        CoinsWarden z = withLaw("fines stay");
        z.car(2, 11, 0, 0);
        due(p + " the first", z.asks(2, 1, 0, 1), 0);
        due(p + " the last", z.asks(11, 1, 0, 1), 9);
        Check.habit(z, "throw 0");
        due(p + " all, half of each", z.habits(0, 0), 45 * ONE / 2);
        due(p + " all, half of each", z.cost(0, 0), 45 * ONE / 2);
        z.terms(0, 9);
        due(p + " all, half of each", z.least(0, 1), 45 * ONE / 2);
    }

    private static void nearest(Document doc) {
        String c = doc.sentence("He COMES in as many of ten as the last \"comes\" that HOLDS tells, 0 .. 10 (else the nearest), 5 without");
        String f = doc.sentence("he FINES what \"fines\" tells, 0 .. 99, FINE without; a CAR is SPARED, if \"spares\" HOLDS.");
        String[] sums = {"0 - 1000 * 1000 * 1000", "0 - 1", "0", "1", "9", "10", "11", "98", "99", "100", "1000 * 1000 * 1000"};
        int[] comes = {0, 0, 0, 1, 9, 10, 10, 10, 10, 10, 10};
        int[] fines = {0, 0, 0, 1, 9, 10, 11, 98, 99, 99, 99};
        int[] throwing = {0, 0, 0, 1, 9, 10, 11, 12, 12, 12, 12};
        String h = doc.sentence("the last CLAUSE that HOLDS tells how many coins are thrown, 0 .. 12 (else the nearest), 0 without.");
        for (int n = 0; n < sums.length; n++) {
            CoinsWarden x = withLaw("comes " + sums[n] + "; fines " + sums[n]);
            x.car(0, 0, 0, 0);
            due(c + " " + sums[n], x.asks(0, 1, 0, 0), comes[n]);
            due(c + " " + sums[n], x.likely(0, 0), ONE / 10 * comes[n]);
            due(f + " " + sums[n], x.asks(0, 1, 0, 1), fines[n]);
            due(f + " on the mean " + sums[n], x.cost(0, 0), ONE / 10 * comes[n] * fines[n]);
            Check.habit(x, "throw " + sums[n]);
            Check.habit(x, "throw 0");
            due(f + " by a habit " + sums[n], x.habits(0, 1), ONE / 10 * comes[n] * fines[n]);
            x.day(0, 1);
            due(f + " on a day " + sums[n], x.drawn(0, 0), x.drawn(0, 3) * fines[n]);
            x.terms(0, 9);
            due(f + " RUN " + sums[n], x.least(0, 1), Math.min(9 * ONE, ONE / 10 * comes[n] * fines[n]));
            due(f + " DOWN " + sums[n], x.least(0, 0), Math.min(9 * ONE, ONE / 10 * comes[n] * fines[n]));
            x.terms(0, 1);
            x.force(NONE);
            x.terms(2, 0);
            due(h + " " + sums[n], x.habits(0, 0), throwing[n] * ONE);
            x.day(0, 0);
            due(h + " " + sums[n], x.drawn(0, 2), throwing[n]);
        }
        finesEachTime(f, sums, fines);
        CoinsWarden x = withLaw("comes 3 if slot = 1; fines 3 if slot = 1; spares if slot = 1");
        x.car(0, 1, 0, 0);
        due(c, x.asks(0, 1, 0, 0), 5);
        due(f, x.asks(0, 1, 0, 1), 40);
        due(f, x.asks(0, 1, 0, 2), 0);
        due(c, x.asks(1, 1, 0, 0), 3);
        due(f, x.asks(1, 1, 0, 1), 3);
        due(f, x.asks(1, 1, 0, 2), 1);
        for (int fine : new int[] {0, 99}) {
            x.terms(2, fine);
            due(f + " without", x.asks(0, 1, 0, 1), fine);
        }
        Check.habit(x, "throw 5 if slot = 9");
        due(h + " without", x.habits(0, 0), x.cost(0, 0));
    }

    /** He comes for sure: what is fined is what all calls reckon with. */
    private static void finesEachTime(String f, String[] sums, int[] fines) {
        for (int n = 0; n < sums.length; n++) {
            CoinsWarden x = withLaw("comes 10; fines " + sums[n]);
            x.car(3, 3, 0, 9);
            x.terms(0, 9);
            Check.habit(x, "throw 0");
            due(f + " cost " + sums[n], x.cost(0, 0), fines[n] * ONE);
            due(f + " habit " + sums[n], x.habits(0, 0), fines[n] * ONE);
            for (int what = 0; what < 3; what++) {
                due(f + " least " + what + " " + sums[n], x.least(0, what), Math.min(9, fines[n]) * ONE);
            }
            due(f + " run " + sums[n], x.run(0, 3, 1, 0), fines[n] > 9 ? 1 : 0);
            x.day(0, 0);
            due(f + " on a day " + sums[n], x.drawn(0, 0), fines[n]);
        }
    }

    private static void likely(Document doc) {
        String s = doc.sentence("CHANCES that he COMES in a SLOT (what 0), that he did not come in any till then, that one too (1).");
        for (int tens = 0; tens <= 10; tens++) {
            CoinsWarden x = withLaw("comes " + tens);
            long away = ONE;
            for (int slot = 0; slot < 12; slot++) {
                away = away / 10 * (10 - tens);
                due(s, x.likely(slot, 0), ONE / 10 * tens);
                due(s, x.likely(slot, 1), away);
            }
        }
        span(s + " what", Twin::some, 0, 1, (x, n) -> x.likely(0, n));
    }

    private static void images(Document doc) {
        String s = doc.sentence("IMAGES 0, 1 keep all but the TAPE, FAULT, TAR, the latest DAY; BACK to one all that it keeps is"
            + " as it was then (IMAGES stay).");
        Twin.Way[] ways = {Twin::empty, Twin::some, Twin::full};
        for (int k = 0; k < 2; k++) {
            for (Twin.Way way : ways) {
                goneBack(s, k, way);
            }
        }
        span(s, Twin::empty, 0, 1, CoinsWarden::image);
        span(s, Twin::full, 0, 1, CoinsWarden::back);
        CoinsWarden x = new CoinsWarden();
        x.image(0);
        x.terms(2, 1);
        x.image(1);
        x.terms(2, 2);
        x.image(0);
        x.terms(2, 3);
        x.back(1);
        due(s + " one does not change the other", x.count(14), 1);
        x.back(0);
        due(s + " kept anew", x.count(14), 2);
        x.terms(2, 4);
        x.back(0);
        due(s + " images stay", x.count(14), 2);
        otherTexts(s);
    }

    /** The same numbers, other LAWS and HABITS behind them. */
    private static void otherTexts(String s) {
        CoinsWarden x = new CoinsWarden();
        x.car(0, 0, 0, 0);
        x.image(0);
        for (int n = 0; n < 6; n++) {
            Check.law(x, "comes " + n);
            Check.habit(x, "throw " + n);
        }
        x.terms(2, 0);
        x.image(1);
        x.back(0);
        for (int n = 0; n < 6; n++) {
            Check.law(x, "comes " + (9 - n));
            Check.habit(x, "throw " + (9 - n));
        }
        x.terms(2, 0);
        x.image(0);
        for (int k = 0; k < 2; k++) {
            due(s, x.back(k), 0);
            for (int n = 0; n < 6; n++) {
                x.force(n);
                due(s + " law " + n, x.asks(0, 1, 0, 0), k == 1 ? n : 9 - n);
                due(s + " habit " + n, x.habits(0, n), (k == 1 ? n : 9 - n) * ONE);
            }
        }
    }

    /** An IMAGE of one state, then other calls on top, then BACK: the first state, but for what is not kept. */
    private static void goneBack(String s, int k, Twin.Way way) {
        CoinsWarden x = Twin.at(way);
        List<Long> before = Twin.kept(x);
        due(s, x.image(k), 0);
        changeAll(x);
        List<Long> day = dayOf(x);
        int fault = x.fault();
        int tar = x.tar();
        int tape = x.count(5);
        int[] refusals = Twin.refusals(x);
        due(s, x.back(k), 0);
        due(s, x.status(), 0);
        List<Long> behind = Twin.kept(x);
        for (int n = 0; n < before.size(); n++) {
            due(s + " answer " + n, behind.get(n), before.get(n));
        }
        due(s + " fault stays", x.fault(), fault);
        due(s + " tar stays", x.tar(), tar);
        due(s + " tape stays", x.count(5), tape);
        so(s + " day stays", dayOf(x).equals(day));
        for (int n = 0; n < 5; n++) {
            due(s + " refusals stay", x.count(6 + n), refusals[n]);
        }
    }

    private static void changeAll(CoinsWarden x) {
        x.clear();
        x.undo();
        x.force(NONE);
        for (int what = 0; what < 8; what++) {
            x.terms(what, 2);
        }
        for (int n = 0; n < 6; n++) {
            x.put(n, 3, 7 - n);
            x.put(n, 1, 11);
            x.car(n, n, 1, 1);
            x.end(0);
            Check.law(x, "comes 9 - " + n);
            Check.habit(x, "throw slot + " + n);
            x.place(90, 91 + n);
            x.slip(n, 1);
        }
        x.force(5);
        x.day(9, 5);
        Check.law(x, "comes 9 /");
        rowOf(x, 1);
        x.feed(1, 2, 3, 4, 5);
        x.back(2);
    }

    private static List<Long> dayOf(CoinsWarden x) {
        List<Long> told = new java.util.ArrayList<>();
        for (int n = 0; n < 18; n++) {
            told.add((long) x.drawn(n / 3, n % 3));
        }
        for (int slot = 0; slot < 12; slot++) {
            told.add((long) x.drawn(slot, 3));
        }
        return told;
    }

    private static void counts(Document doc) {
        String s = doc.sentence("0 CARS, 1 LAWS, 2 HABITS, 3 PLACES, 4 SLIPS, 5 bytes of the TAPE");
        int[] empty = {0, 0, 0, 0, 0, 0, 0, 0, 0, 0, 0, NONE, 1, 1, 40, 0, 12, 1, 20, 0};
        int[] some = {3, 2, 2, 2, 2, 5, 0, 0, 1, 0, 1, 0, 2, 1, 40, 4, 5, 1, 20, 0};
        int[] full = {6, 6, 6, 6, 12, 400, 0, 0, 0, 0, 0, 4, 1, 1, 40, 0, 12, 1, 7, 0};
        for (int what = 0; what < 20; what++) {
            due(s + " empty " + what, Twin.at(Twin::empty).count(what), empty[what]);
            due(s + " some " + what, Twin.at(Twin::some).count(what), some[what]);
            due(s + " full " + what, Twin.at(Twin::full).count(what), full[what]);
        }
        span(s, Twin::some, 0, 19, CoinsWarden::count);
        String r = doc.sentence("6 .. 10 how many calls were REFUSED by -1, -2, -3, -5, -6 (IMAGES do not keep that), 11 the LAW in FORCE");
        CoinsWarden x = Twin.at(Twin::full);
        x.image(0);
        int[] times = {5, 4, 3, 2, 1};
        for (int n = 0; n < 5; n++) {
            for (int k = 0; k < times[n]; k++) {
                refuse(x, n);
            }
        }
        x.back(0);
        for (int n = 0; n < 5; n++) {
            due(r, x.count(6 + n), times[n]);
        }
    }

    private static void refuse(CoinsWarden x, int reason) {
        switch (reason) {
            case 0: x.image(2); break;
            case 1: x.force(6); break;
            case 2: x.slip(0, 0); break;
            case 3: x.car(0, 0, 0, 0); break;
            default: x.end(0); x.row(); break;
        }
    }

    private static void status(Document doc) {
        String s = doc.sentence("was REFUSED by; 0 if it was not, or ahead of any.");
        due(s, new CoinsWarden().status(), 0);
        String[] names = {"car", "put", "terms", "row", "law", "habit", "force", "place", "slip", "undo", "day", "image", "back"};
        Twin.Call[] good = {x -> x.car(0, 0, 0, 0), x -> x.put(0, 3, 1), x -> x.terms(0, 1), CoinsWarden::row,
            EdgesTest::goodLaw, EdgesTest::goodHabit, x -> x.force(NONE), x -> x.place(0, 1), x -> x.slip(0, 0),
            CoinsWarden::undo, x -> x.day(0, NONE), x -> x.image(1), x -> x.back(0)};
        Twin.Call[] wrong = {x -> x.car(0, 12, 0, 0), x -> x.put(9, 3, 1), x -> x.terms(8, 1), EdgesTest::emptyRow,
            CoinsWarden::law, CoinsWarden::habit, x -> x.force(7), x -> x.place(1, 1), x -> x.slip(2, 0),
            EdgesTest::undoTooOften, x -> x.day(0, 6), x -> x.image(2), x -> x.back(1)};
        int[] by = {-1, -2, -1, -6, -6, -6, -2, -1, -3, -3, -2, -1, -2};
        for (int n = 0; n < names.length; n++) {
            CoinsWarden x = Twin.at(Twin::some);
            due(s + " ahead of " + names[n], x.status(), -3);
            good[n].on(x);
            due(s + " behind " + names[n], x.status(), 0);
            CoinsWarden y = Twin.at(Twin::some);
            wrong[n].on(y);
            due(s + " behind refused " + names[n], y.status(), by[n]);
            othersLeave(s, y, by[n]);
        }
    }

    private static long goodLaw(CoinsWarden x) {
        x.end(0);
        return Check.law(x, "spares");
    }

    private static long goodHabit(CoinsWarden x) {
        x.end(0);
        return Check.habit(x, "throw 1");
    }

    private static long emptyRow(CoinsWarden x) {
        x.end(0);
        return x.row();
    }

    private static long undoTooOften(CoinsWarden x) {
        x.undo();
        x.undo();
        return x.undo();
    }

    private static void othersLeave(String s, CoinsWarden x, int by) {
        x.end(0);
        x.end(999);
        x.feed(0, 0, 0, 0, 0);
        x.clear();
        Twin.kept(x);
        x.run(0, 3, 1, 0);
        x.down(0, 0);
        x.chalk(1, 1, 1, 1);
        x.drawn(0, 0);
        x.fault();
        x.tar();
        x.which();
        x.likely(0, 0);
        x.status();
        due(s + " others leave it", x.status(), by);
    }

    public static void main(String[] args) throws IOException {
        Document doc = new Document(CHECK);
        newObject(doc);
        lastCall(doc);
        slots(doc);
        cars(doc);
        stay(doc);
        putStay(doc);
        seatAndFlights(doc);
        terms(doc);
        termsAtWork(doc);
        words(doc);
        places(doc);
        slips(doc);
        slipsByLaws(doc);
        tape(doc);
        feedBytes(doc);
        rows(doc);
        rowRoom(doc);
        tar(doc);
        force(doc);
        asks(doc);
        since(doc);
        nearest(doc);
        likely(doc);
        images(doc);
        counts(doc);
        status(doc);
        CHECK.close("EdgesTest");
    }
}
