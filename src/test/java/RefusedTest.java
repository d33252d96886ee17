import java.io.IOException;

/** Calls that are REFUSED, or answer NONE: what they answer, what status() and count() tell, that nothing else changed. */
public final class RefusedTest {
    private static final Check CHECK = new Check();
    private static final int NONE = CoinsWarden.NONE;
    private static final int LOW = Integer.MIN_VALUE;
    private static final int HIGH = Integer.MAX_VALUE;
    private static final int[] REASONS = {-1, -2, -3, -5, -6};

    /** One call with a number that is put in. */
    private interface Taking {
        long with(CoinsWarden x, int value);
    }

    private static void refused(String what, Twin.Way way, Twin.Call call, int by) {
        refused(what, way, call, by, Twin::empty, 0);
    }

    /** The twin makes another change instead, and answers alike from the n-th answer on. */
    private static void refused(String what, Twin.Way way, Twin.Call call, int by, Twin.Way instead, int from) {
        CoinsWarden x = Twin.at(way);
        int[] before = Twin.refusals(x);
        CHECK.due(what + ": answer", call.on(x), by);
        CHECK.due(what + ": status", x.status(), by);
        int[] behind = Twin.refusals(x);
        for (int n = 0; n < REASONS.length; n++) {
            CHECK.due(what + ": refused by " + REASONS[n], behind[n] - before[n], REASONS[n] == by ? 1 : 0);
        }
        CoinsWarden y = Twin.at(way);
        instead.go(y);
        Twin.alike(CHECK, what, x, y, from);
    }

    /** NONE is no refusal: status() and the numbers of refused calls stay, too. */
    private static void none(String what, Twin.Way way, Twin.Call call) {
        CoinsWarden x = Twin.at(way);
        int status = x.status();
        int[] before = Twin.refusals(x);
        CHECK.due(what + ": answer", call.on(x), NONE);
        CHECK.due(what + ": status", x.status(), status);
        int[] behind = Twin.refusals(x);
        for (int n = 0; n < REASONS.length; n++) {
            CHECK.due(what + ": refused by " + REASONS[n], behind[n], before[n]);
        }
        Twin.alike(CHECK, what, x, Twin.at(way), 0);
    }

    private static void refusedFor(String what, Twin.Way way, int by, Taking call, int... values) {
        for (int value : values) {
            refused(what + " with " + value, way, x -> call.with(x, value), by);
        }
    }

    private static void noneFor(String what, Taking call, int... values) {
        for (int value : values) {
            none(what + " with " + value, Twin::some, x -> call.with(x, value));
        }
    }

    private static void car(Document doc) {
        String s = doc.sentence("A CAR: its number. -1; -5.");
        for (Twin.Way way : new Twin.Way[] {Twin::empty, Twin::some, Twin::full}) {
            refusedFor(s + " from", way, -1, (x, n) -> x.car(n, 11, 0, 0), -1, 12, LOW, HIGH);
            refusedFor(s + " till", way, -1, (x, n) -> x.car(0, n, 0, 0), -1, 12, LOW, HIGH);
            refusedFor(s + " till ahead of from", way, -1, (x, n) -> x.car(n, n - 1, 0, 0), 1, 6, 11);
            refusedFor(s + " seat", way, -1, (x, n) -> x.car(0, 0, n, 0), -1, 2, LOW, HIGH);
            refusedFor(s + " flights", way, -1, (x, n) -> x.car(0, 0, 0, n), -1, 10, LOW, HIGH);
        }
        refusedFor(s + " no room", Twin::full, -5, (x, n) -> x.car(n, 11, n % 2, n % 10), 0, 5, 11);
    }

    private static void put(Document doc) {
        String s = doc.sentence("what it was. -1; -2; -3 (TILL would be ahead of FROM).");
        int[] highest = {11, 11, 1, 9};
        for (Twin.Way way : new Twin.Way[] {Twin::empty, Twin::some, Twin::full}) {
            refusedFor(s + " what", way, -1, (x, n) -> x.put(0, n, 1), -1, 4, LOW, HIGH);
            for (int what = 0; what < 4; what++) {
                int fact = what;
                refusedFor(s + " value of " + what, way, -1, (x, n) -> x.put(0, fact, n), -1, highest[what] + 1, LOW, HIGH);
                refusedFor(s + " -1 ahead of -2", way, -1, (x, n) -> x.put(7, fact, n), -1, highest[what] + 1);
                refusedFor(s + " no such car", way, -2, (x, n) -> x.put(n, fact, 1), 6, -1, LOW, HIGH);
            }
        }
        refusedFor(s + " no car at all", Twin::empty, -2, (x, n) -> x.put(0, n, 0), 0, 1, 2, 3);
        refusedFor(s + " the first car that is not", Twin::some, -2, (x, n) -> x.put(Twin.CARS_OF_SOME, n, 0), 0, 1, 2, 3);
        refusedFor(s + " from", Twin::some, -3, (x, n) -> x.put(0, 0, n), 5, 11);
        refusedFor(s + " till", Twin::some, -3, (x, n) -> x.put(1, 1, n), 2, 0);
        refusedFor(s + " from, full", Twin::full, -3, (x, n) -> x.put(4, 0, n), 11);
        refusedFor(s + " till, full", Twin::full, -3, (x, n) -> x.put(5, 1, n), 4);
    }

    private static void terms(Document doc) {
        String s = doc.sentence("A TERM: what it was. -1.");
        int[] low = {1, 1, 0, 0, 1, 0, 0, 0};
        int[] high = {9, 4, 99, 9, 12, 3, 99, 9};
        for (int what = 0; what < 8; what++) {
            int term = what;
            refusedFor(s + " value of " + what, Twin::some, -1, (x, n) -> x.terms(term, n), low[what] - 1, high[what] + 1, LOW, HIGH);
        }
        refusedFor(s + " what", Twin::some, -1, (x, n) -> x.terms(n, 1), -1, 8, LOW, HIGH);
        refusedFor(s + " what, full", Twin::full, -1, (x, n) -> x.terms(n, 1), -1, 8);
    }

    private static void row(Document doc) {
        String s = doc.sentence("-6 the TAPE is empty.");
        refused(s, Twin::empty, CoinsWarden::row, -6);
        refused(s + " cut", x -> cut(x, Twin::some), CoinsWarden::row, -6);
        refused(s + " cut, full", x -> cut(x, Twin::full), CoinsWarden::row, -6);
    }

    private static void cut(CoinsWarden x, Twin.Way way) {
        way.go(x);
        x.end(0);
    }

    private static void tapeOf(CoinsWarden x, Twin.Way way, String text) {
        cut(x, way);
        Check.feed(x, text);
    }

    private static void texts(Document doc) {
        String s = doc.sentence("-5 (ahead of reading it; the TAPE is empty then, too)");
        for (String text : new String[] {"", "  ", "spares", "throw 1", "?"}) {
            refused(s + " law " + text, x -> tapeOf(x, Twin::full, text), CoinsWarden::law, -5, x -> x.end(0), 0);
            refused(s + " habit " + text, x -> tapeOf(x, Twin::full, text), CoinsWarden::habit, -5, x -> x.end(0), 0);
        }
        refused(s + " whole tape", Twin::full, CoinsWarden::law, -5, x -> x.end(0), 0);
        refused(s + " whole tape", Twin::full, CoinsWarden::habit, -5, x -> x.end(0), 0);
        String blanks = doc.sentence("-6 (blanks alone: FAULT at the end).");
        for (String text : new String[] {"", " ", "     ", "?", "spares 1", "throw 1 1", "comes 1;", "throw 1;"}) {
            for (Twin.Way way : new Twin.Way[] {Twin::empty, Twin::some}) {
                refused(blanks + " law " + text, x -> tapeOf(x, way, text), CoinsWarden::law, -6, x -> x.end(0), 1);
                refused(blanks + " habit " + text, x -> tapeOf(x, way, text), CoinsWarden::habit, -6, x -> x.end(0), 1);
            }
        }
    }

    private static void force(Document doc) {
        String s = doc.sentence("A LAW is in FORCE (NONE: none): which was. -2.");
        refusedFor(s, Twin::empty, -2, (x, n) -> x.force(n), 0, -2, 1, LOW, HIGH);
        refusedFor(s, Twin::some, -2, (x, n) -> x.force(n), 2, -2, 6, LOW, HIGH);
        refusedFor(s, Twin::full, -2, (x, n) -> x.force(n), 6, -2, LOW, HIGH);
    }

    private static void place(Document doc) {
        String s = doc.sentence("A PLACE: its number. -1; -5.");
        for (Twin.Way way : new Twin.Way[] {Twin::empty, Twin::some, Twin::full}) {
            refusedFor(s + " loss", way, -1, (x, n) -> x.place(n, 99), -1, 99, LOW, HIGH);
            refusedFor(s + " caught", way, -1, (x, n) -> x.place(0, n), 100, 0, -1, LOW, HIGH);
            refusedFor(s + " caught no more than loss", way, -1, (x, n) -> x.place(n, n), 0, 50, 98, 99);
            refusedFor(s + " caught below loss", way, -1, (x, n) -> x.place(n, n - 1), 1, 98, 99);
        }
        refusedFor(s + " no room", Twin::full, -5, (x, n) -> x.place(n, 99), 0, 98);
    }

    private static void slips(Document doc) {
        String s = doc.sentence("A SLIP: how many there are. -1; -3 (it was told of that SLOT); -5.");
        for (Twin.Way way : new Twin.Way[] {Twin::empty, Twin::some, Twin::full}) {
            refusedFor(s + " slot", way, -1, (x, n) -> x.slip(n, 1), -1, 12, LOW, HIGH);
            refusedFor(s + " came", way, -1, (x, n) -> x.slip(2, n), -1, 2, LOW, HIGH);
        }
        refusedFor(s + " told", Twin::some, -3, (x, n) -> x.slip(2, n), 0, 1);
        refusedFor(s + " told", Twin::some, -3, (x, n) -> x.slip(7, n), 0, 1);
        for (int slot = 0; slot < 12; slot++) {
            refusedFor(s + " all twelve told, -3 ahead of -5", Twin::full, -3, (x, n) -> x.slip(n, 0), slot);
        }
        String u = doc.sentence("The latest SLIP is undone: its SLOT. -3 there is none.");
        refused(u, Twin::empty, CoinsWarden::undo, -3);
        refused(u, RefusedTest::undone, CoinsWarden::undo, -3);
    }

    private static void undone(CoinsWarden x) {
        Twin.some(x);
        x.undo();
        x.undo();
    }

    private static void day(Document doc) {
        String s = doc.sentence("A DAY, kept as the latest: how often he came. -1; -2.");
        for (Twin.Way way : new Twin.Way[] {Twin::empty, Twin::some, Twin::full}) {
            refusedFor(s + " seed", way, -1, (x, n) -> x.day(n, NONE), -1, 1_000_001, LOW, HIGH);
            refusedFor(s + " seed ahead of habit", way, -1, (x, n) -> x.day(n, 6), -1, 1_000_001);
            refusedFor(s + " habit", way, -2, (x, n) -> x.day(0, n), 6, -2, LOW, HIGH);
        }
        refusedFor(s + " no habit at all", Twin::empty, -2, (x, n) -> x.day(n, 0), 0, 1_000_000);
        refusedFor(s + " the first habit that is not", Twin::some, -2, (x, n) -> x.day(n, 2), 0, 1_000_000);
    }

    private static void images(Document doc) {
        String s = doc.sentence("IMAGE k is kept: 0; -1.");
        String b = doc.sentence("BACK to IMAGE k: 0. -1; -2 it was not kept.");
        for (Twin.Way way : new Twin.Way[] {Twin::empty, Twin::some, Twin::full}) {
            refusedFor(s, way, -1, (x, n) -> x.image(n), -1, 2, LOW, HIGH);
            refusedFor(b, way, -1, (x, n) -> x.back(n), -1, 2, LOW, HIGH);
        }
        refusedFor(b, Twin::empty, -2, (x, n) -> x.back(n), 0, 1);
        refusedFor(b + " the other one was", Twin::some, -2, (x, n) -> x.back(n), 1);
        refused(b + " the other one was", x -> x.image(1), x -> x.back(0), -2);
    }

    private static void tapeNone(Document doc) {
        String f = doc.sentence("NONE, if there would be more than 400.");
        none(f, Twin::full, x -> x.feed(1, 2, 3, 4, 5));
        for (int length = 381; length <= 400; length++) {
            int n = length;
            none(f + " at " + n, x -> longTape(x, n), x -> x.feed(0, 0, 0, 0, 0));
        }
        String e = doc.sentence("NONE, if it has not so many, or n is below 0.");
        noneFor(e, (x, n) -> x.end(n), 6, -1, LOW, HIGH);
        none(e, Twin::empty, x -> x.end(1));
        none(e, Twin::empty, x -> x.end(-1));
        none(e, Twin::full, x -> x.end(401));
    }

    private static void longTape(CoinsWarden x, int length) {
        Twin.some(x);
        x.end(0);
        for (int n = 0; n < 20; n++) {
            x.feed(n << 24, n << 16, n, -n, 0x03040105);
        }
        x.end(length);
    }

    private static void factsNone(Document doc) {
        String s = doc.sentence("Of a CAR 0 .. 3 as for put(). NONE.");
        noneFor(s + " car", (x, n) -> x.fact(n, 0), 3, -1, 6, LOW, HIGH);
        noneFor(s + " what", (x, n) -> x.fact(0, n), 4, -1, LOW, HIGH);
        none(s + " no car", Twin::empty, x -> x.fact(0, 0));
    }

    private static void lawNone(Document doc) {
        String s = doc.sentence("whether it is SPARED (2: 1, 0). NONE (the CAR aside for 0).");
        noneFor(s + " slot", (x, n) -> x.asks(n, 1, 0, 0), -1, 12, LOW, HIGH);
        noneFor(s + " since", (x, n) -> x.asks(3, n, 0, 0), 0, 13, -1, LOW, HIGH);
        noneFor(s + " what", (x, n) -> x.asks(3, 1, 0, n), -1, 3, LOW, HIGH);
        for (int what = 1; what <= 2; what++) {
            int w = what;
            noneFor(s + " car", (x, n) -> x.asks(3, 1, n, w), -1, 3, 6, LOW, HIGH);
            noneFor(s + " it is not there then", (x, n) -> x.asks(n, 1, 0, w), 0, 5, -1, 12, LOW, HIGH);
            noneFor(s + " it is not there then", (x, n) -> x.asks(n, 1, 2, w), 2, 4);
            noneFor(s + " since", (x, n) -> x.asks(3, n, 0, w), 0, 13, LOW, HIGH);
        }
        String l = doc.sentence("that he did not come in any till then, that one too (1). NONE.");
        noneFor(l + " slot", (x, n) -> x.likely(n, 0), -1, 12, LOW, HIGH);
        noneFor(l + " slot", (x, n) -> x.likely(n, 1), -1, 12, LOW, HIGH);
        noneFor(l + " what", (x, n) -> x.likely(0, n), -1, 2, LOW, HIGH);
    }

    private static void costsNone(Document doc) {
        String c = doc.sentence("What n coins AT FIRST cost a CAR. NONE.");
        noneFor(c + " car", (x, n) -> x.cost(n, 0), -1, 3, 6, LOW, HIGH);
        noneFor(c + " n", (x, n) -> x.cost(0, n), -1, 13, LOW, HIGH);
        String f = doc.sentence("how many numbers are as good (1). NONE.");
        noneFor(f + " car", (x, n) -> x.coins(n, 0), -1, 3, 6, LOW, HIGH);
        noneFor(f + " what", (x, n) -> x.coins(0, n), -1, 2, LOW, HIGH);
        String l = doc.sentence("SOUP (3) costs, is worth to a CAR (SEAT or not). NONE.");
        noneFor(l + " car", (x, n) -> x.least(n, 0), -1, 3, 6, LOW, HIGH);
        noneFor(l + " what", (x, n) -> x.least(0, n), -1, 4, LOW, HIGH);
        String d = doc.sentence("DOWN: coins in the i-th SLOT of a CAR (i 0 .. ). NONE.");
        noneFor(d + " car", (x, n) -> x.down(n, 0), -1, 3, 6, LOW, HIGH);
        noneFor(d + " i", (x, n) -> x.down(0, n), -1, 4, 12, LOW, HIGH);
        noneFor(d + " i", (x, n) -> x.down(2, n), -1, 1);
    }

    private static void runNone(Document doc) {
        String r = doc.sentence("in a SLOT of its stay, with since and so many SLOTS paid 0 .. 12. NONE.");
        noneFor(r + " car", (x, n) -> x.run(n, 3, 1, 0), -1, 3, 6, LOW, HIGH);
        noneFor(r + " slot", (x, n) -> x.run(0, n, 1, 0), 0, 5, -1, 12, LOW, HIGH);
        noneFor(r + " slot", (x, n) -> x.run(2, n, 1, 0), 2, 4);
        noneFor(r + " since", (x, n) -> x.run(0, 3, n, 0), 0, 13, -1, LOW, HIGH);
        noneFor(r + " left", (x, n) -> x.run(0, 3, 1, n), -1, 13, LOW, HIGH);
        String h = doc.sentence("What a HABIT costs a CAR. NONE.");
        noneFor(h + " car", (x, n) -> x.habits(n, 0), -1, 3, 6, LOW, HIGH);
        noneFor(h + " habit", (x, n) -> x.habits(0, n), -1, 2, 6, LOW, HIGH);
        String a = doc.sentence("The HABIT that costs a CAR least, the lowest. NONE.");
        noneFor(a + " car", (x, n) -> x.advice(n), -1, 3, 6, LOW, HIGH);
        none(a + " no habits", x -> x.car(0, 0, 0, 0), x -> x.advice(0));
        none(a + " no cars", x -> Check.habit(x, "throw 1"), x -> x.advice(0));
    }

    private static void gamesNone(Document doc) {
        String c = doc.sentence("which, as bits (2). NONE.");
        noneFor(c + " rounds", (x, n) -> x.chalk(n, 0, 1, 0), -1, 4096, LOW, HIGH);
        noneFor(c + " moves", (x, n) -> x.chalk(0, n, 1, 0), -1, 4096, LOW, HIGH);
        for (int what = 0; what < 3; what++) {
            int w = what;
            noneFor(c + " limit", (x, n) -> x.chalk(9, 0, n, w), 0, 13, -1, LOW, HIGH);
        }
        noneFor(c + " what", (x, n) -> x.chalk(9, 0, 1, n), -1, 3, LOW, HIGH);
        String g = doc.sentence("lower (4 + 2 i). NONE (no PLACES).");
        noneFor(g + " toll", (x, n) -> x.game(n, 0), -1, 100, LOW, HIGH);
        noneFor(g + " toll", (x, n) -> x.game(n, 3), -1, 100, LOW, HIGH);
        noneFor(g + " what", (x, n) -> x.game(9, n), -1, 7, 8, LOW, HIGH);
        for (int what = 0; what < 15; what++) {
            int w = what;
            none(g + " no places", Twin::empty, x -> x.game(9, w));
        }
        none(g + " what, six places", Twin::full, x -> x.game(9, 15));
        String t = doc.sentence("WARDENS (2), FINE (3) for that. NONE.");
        noneFor(t, (x, n) -> x.town(n), -1, 4, LOW, HIGH);
    }

    private static void slipsNone(Document doc) {
        String f = doc.sentence("SLIPS by a LAW (NONE: without one). NONE (no such LAW).");
        noneFor(f, (x, n) -> x.fits(n), 2, -2, 6, LOW, HIGH);
        none(f, Twin::empty, x -> x.fits(0));
        none(f, Twin::full, x -> x.fits(6));
        String w = doc.sentence("SLIPS, and he came in a SLOT. NONE.");
        noneFor(w, (x, n) -> x.went(n), -1, 12, LOW, HIGH);
        String d = doc.sentence("of the SLOT car (what 3) whether he came (1, 0). NONE.");
        for (int what = 0; what < 3; what++) {
            int fact = what;
            noneFor(d + " car", (x, n) -> x.drawn(n, fact), -1, 3, 6, LOW, HIGH);
        }
        noneFor(d + " slot", (x, n) -> x.drawn(n, 3), -1, 12, LOW, HIGH);
        noneFor(d + " what", (x, n) -> x.drawn(0, n), -1, 4, LOW, HIGH);
        for (int what = 0; what < 4; what++) {
            int fact = what;
            none(d + " no day", Twin::empty, x -> x.drawn(0, fact));
        }
        String c = doc.sentence("12 .. 19 TERMS 0 .. 7. NONE for others.");
        noneFor(c, (x, n) -> x.count(n), -1, 20, LOW, HIGH);
    }

    /** "The first of these in that order": two grounds at once, where a call can have them. */
    private static void order(Document doc) {
        String s = doc.sentence("The first of these in that order.");
        refused(s + " car: -1, not -5", Twin::full, x -> x.car(12, 12, 0, 0), -1);
        refused(s + " place: -1, not -5", Twin::full, x -> x.place(5, 5), -1);
        refused(s + " put: -1, not -2", Twin::some, x -> x.put(9, 3, 10), -1);
        refused(s + " put: -1, not -3", Twin::some, x -> x.put(0, 1, -1), -1);
        refused(s + " slip: -1, not -3", Twin::some, x -> x.slip(2, 2), -1);
        refused(s + " slip: -3, not -5", Twin::full, x -> x.slip(11, 1), -3);
        refused(s + " day: -1, not -2", Twin::some, x -> x.day(1_000_001, 9), -1);
        refused(s + " back: -1, not -2", Twin::empty, x -> x.back(2), -1);
        refused(s + " law: -5, not -6", x -> tapeOf(x, Twin::full, "no"), CoinsWarden::law, -5, x -> x.end(0), 0);
        refused(s + " habit: -5, not -6", x -> tapeOf(x, Twin::full, "no"), CoinsWarden::habit, -5, x -> x.end(0), 0);
    }

    public static void main(String[] args) throws IOException {
        Document doc = new Document(CHECK);
        car(doc);
        put(doc);
        terms(doc);
        row(doc);
        texts(doc);
        force(doc);
        place(doc);
        slips(doc);
        day(doc);
        images(doc);
        tapeNone(doc);
        factsNone(doc);
        lawNone(doc);
        costsNone(doc);
        runNone(doc);
        gamesNone(doc);
        slipsNone(doc);
        order(doc);
        CHECK.close("RefusedTest");
    }
}
