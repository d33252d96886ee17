import java.io.IOException;

/** What coins, games, the town and days come to at the bounds that the document names. */
public final class CostEdgesTest {
    private static final Check CHECK = new Check();
    private static final long ONE = 1_000_000_000_000L;
    private static final int NONE = CoinsWarden.NONE;

    private static void due(String what, long got, long want) {
        CHECK.due(what, got, want);
    }

    private static void so(String what, boolean is) {
        CHECK.due(what, is ? 1 : 0, 1);
    }

    private static CoinsWarden withLaw(String text) {
        CoinsWarden x = new CoinsWarden();
        due("law " + text, Check.law(x, text), 0);
        due("force", x.force(0), NONE);
        return x;
    }

    /** From 0 to the highest number a question is answered, below and above it is not. */
    private static void answered(String what, int highest, Twin.Call[] calls) {
        for (int n = 0; n < calls.length; n++) {
            long got = calls[n].on(Twin.at(Twin::some));
            so(what + " " + (n - 1), got != NONE == (n > 0 && n - 1 <= highest));
        }
    }

    private static void paid(Document doc) {
        String s = doc.sentence("each buys PER SLOTS more from this one on (12 at most are paid)");
        for (int per = 1; per <= 4; per++) {
            CoinsWarden x = new CoinsWarden();
            x.car(0, 11, 0, 0);
            x.car(6, 11, 0, 0);
            x.terms(1, per);
            for (int n = 0; n <= 12; n++) {
                due(s, x.cost(0, n), (n + 20 * Math.max(0, 12 - n * per)) * ONE);
                due(s, x.cost(1, n), (n + 20 * Math.max(0, 6 - n * per)) * ONE);
            }
        }
        CoinsWarden x = new CoinsWarden();
        x.car(0, 3, 0, 0);
        x.terms(1, 4);
        x.terms(2, 0);
        Check.habit(x, "throw 12 if stay = 0; throw left if stay > 0");
        due(s + " 48 are cut to 12, 11 are left then, and so on", x.habits(0, 0), (12 + 11 * 3) * ONE);
        Check.habit(x, "throw 3 if stay = 0; throw left if stay > 0");
        due(s + " just 12", x.habits(0, 1), (3 + 11 * 3) * ONE);
        Check.habit(x, "throw 2 if stay = 0; throw left if stay = 1");
        due(s + " 8", x.habits(0, 2), (2 + 7) * ONE);
        x.day(0, 0);
        due(s, x.drawn(0, 2), 12 + 11 * 3);
        due(s, x.run(0, 0, 1, 12), 0);
    }

    private static void flights(Document doc) {
        String s = doc.sentence("in the first SLOT one is there, in others coins cost FLIGHTS once besides.");
        for (int slot = 2; slot <= 4; slot++) {
            for (int coins = 0; coins <= 12; coins++) {
                CoinsWarden x = new CoinsWarden();
                x.car(2, 4, 0, 9);
                x.terms(2, 0);
                x.terms(0, 3);
                Check.habit(x, "throw " + coins + " if slot = " + slot);
                long want = 3 * coins + (slot > 2 && coins > 0 ? 9 : 0);
                due(s, x.habits(0, 0), want * ONE);
                x.day(7, 0);
                due(s, x.drawn(0, 0), want);
            }
        }
        CoinsWarden x = withLaw("comes 10");
        x.car(2, 4, 0, 9);
        x.terms(2, 99);
        due(s + " at first there are none", x.cost(0, 3), 3 * ONE);
        due(s + " at first there are none", x.least(0, 0), 3 * ONE);
    }

    private static void fines(Document doc) {
        String s = doc.sentence("a CAR that has no SLOT paid and is not SPARED pays what he FINES, each time.");
        CoinsWarden x = withLaw("comes 10; fines 7; spares if car = 1");
        x.car(0, 11, 0, 0);
        x.car(0, 11, 0, 0);
        for (int n = 0; n <= 12; n++) {
            due(s, x.cost(0, n), (n + 7 * (12 - n)) * ONE);
            due(s + " spared", x.cost(1, n), n * ONE);
        }
        Check.habit(x, "throw 0");
        x.day(0, 0);
        due(s, x.drawn(0, 0), 84);
        due(s, x.drawn(0, 1), 12);
        due(s + " spared", x.drawn(1, 0), 0);
        due(s + " spared", x.drawn(1, 1), 0);
        CoinsWarden y = withLaw("comes 10 if slot = 3; comes 0 if not slot = 3");
        y.car(3, 3, 0, 0);
        y.car(2, 3, 0, 0);
        y.car(3, 4, 0, 0);
        y.car(4, 11, 0, 0);
        y.car(0, 2, 0, 0);
        long[] none = {40, 40, 40, 0, 0};
        long[] one = {1, 41, 1, 1, 1};
        long[] two = {2, 2, 2, 2, 2};
        for (int car = 0; car < 5; car++) {
            due(s + " first and last slot", y.cost(car, 0), none[car] * ONE);
            due(s + " first and last slot", y.cost(car, 1), one[car] * ONE);
            due(s + " first and last slot", y.cost(car, 2), two[car] * ONE);
        }
    }

    private static void exact(Document doc) {
        String s = doc.sentence("COSTS are told on the mean, in 1,000,000,000,000 parts (a whole one times that),"
            + " over all that can be from SLOT 0 on; all are whole.");
        CoinsWarden x = withLaw("comes 1; fines 99 if slot = 11 and since = 12");
        x.car(11, 11, 0, 0);
        x.terms(4, 1);
        x.terms(2, 0);
        long never = 1;
        for (int n = 0; n < 11; n++) {
            never *= 9;
        }
        due(s + " to the last digit", x.cost(0, 0), never * 10 * 99 / 10);
        due(s + " to the last digit", x.least(0, 0), Math.min(ONE, never * 99));
        CoinsWarden y = withLaw("comes 9; fines 1 if since = 12");
        y.car(11, 11, 0, 0);
        y.terms(4, 1);
        y.terms(2, 0);
        due(s + " one part of 10^11 comes, nine of ten", y.cost(0, 0), 9);
        due(s, y.least(0, 0), 9);
        due(s, y.least(0, 1), 9);
        due(s, y.least(0, 2), 9);
        due(s, y.coins(0, 0), 0);
        due(s + " the least chance", y.likely(11, 1), 1);
        CoinsWarden last = withLaw("comes 9; comes 1 if slot = 11 and since = 12; fines 99 if since = 12");
        last.car(11, 11, 0, 0);
        last.terms(4, 1);
        last.terms(2, 0);
        Check.habit(last, "throw 0");
        due(s + " a single part", last.cost(0, 0), 99);
        due(s + " a single part", last.habits(0, 0), 99);
        due(s + " a single part", last.least(0, 0), 99);
        due(s + " RUN: a coin in the ten parts in which he may still come", last.least(0, 1), 10);
        due(s + " WARNED: a coin in the one in which he does", last.least(0, 2), 1);
        CoinsWarden z = withLaw("comes 10; fines 99");
        z.car(0, 11, 0, 9);
        z.terms(0, 9);
        due(s + " the most fines", z.cost(0, 0), 1188 * ONE);
        Check.habit(z, "throw 12");
        due(s + " the most coins", z.habits(0, 0), (12 * 12 * 9 + 11 * 9) * ONE);
    }

    private static void atFirst(Document doc) {
        String s = doc.sentence("AT FIRST: n coins 0 .. 12 are thrown in the first SLOT, none later: the best number, the lowest.");
        CoinsWarden x = new CoinsWarden();
        x.car(0, 11, 0, 9);
        for (int n = 0; n <= 12; n++) {
            due(s, x.cost(0, n), (n + 20 * (12 - n)) * ONE);
        }
        due(s, x.cost(0, 13), NONE);
        due(s, x.cost(0, -1), NONE);
        due(s + " twelve are best", x.coins(0, 0), 12);
        due(s + " alone", x.coins(0, 1), 1);
        x.terms(2, 2);
        due(s + " all are as good", x.coins(0, 0), 0);
        due(s + " all are as good", x.coins(0, 1), 13);
        x.terms(2, 1);
        due(s + " none is best", x.coins(0, 0), 0);
        due(s + " none is best", x.coins(0, 1), 1);
        x.terms(2, 3);
        due(s + " a little more", x.coins(0, 0), 12);
        due(s + " a little more", x.coins(0, 1), 1);
        String c = doc.sentence("AT FIRST: the best number (what 0), how many numbers are as good (1).");
        answered(c, 1, new Twin.Call[] {y -> y.coins(0, -1), y -> y.coins(0, 0), y -> y.coins(0, 1), y -> y.coins(0, 2)});
    }

    private static void down(Document doc) {
        String s = doc.sentence("DOWN: in each SLOT any number, told ahead, not by what he does: the least COST;"
            + " the first as a row of coins by SLOTS.");
        CoinsWarden x = withLaw("comes 10; fines 1");
        x.car(0, 11, 0, 0);
        due(s + " all rows with a coin for a slot are as good: none at all is the first", x.least(0, 0), 12 * ONE);
        for (int i = 0; i < 12; i++) {
            due(s, x.down(0, i), 0);
        }
        CoinsWarden y = withLaw("comes 10; fines 2");
        y.car(0, 11, 0, 0);
        for (int i = 0; i < 12; i++) {
            due(s + " one in each is the first of the best", y.down(0, i), 1);
        }
        y.put(0, 3, 1);
        due(s + " going down costs", y.down(0, 0), 12);
        due(s + " going down costs", y.down(0, 11), 0);
        due(s + " going down costs", y.least(0, 0), 12 * ONE);
        y.put(0, 3, 0);
        y.put(0, 0, 11);
        due(s + " one slot", y.down(0, 0), 1);
        due(s + " one slot", y.down(0, 1), NONE);
        CoinsWarden p = withLaw("comes 10 if slot = 2 or slot = 4 or slot = 7; comes 0 if not (slot = 2 or slot = 4 or slot = 7)");
        p.car(1, 9, 0, 2);
        p.terms(1, 3);
        p.terms(0, 2);
        due(s + " three at once, or two by going down", p.least(0, 0), 6 * ONE);
        rowOf(s + " the first of them", p, 0, 2, 0, 0, 0, 0, 0, 0, 0);
        p.put(0, 3, 3);
        due(s + " three at once", p.least(0, 0), 6 * ONE);
        rowOf(s + " three at once", p, 3, 0, 0, 0, 0, 0, 0, 0, 0);
        p.put(0, 3, 0);
        due(s + " one pays two of his comings", p.least(0, 0), 4 * ONE);
        rowOf(s + " as late as can be", p, 0, 1, 0, 0, 0, 0, 1, 0, 0);
        p.terms(2, 1);
        due(s + " a coin for two fines, or none at all", p.least(0, 0), 3 * ONE);
        rowOf(s + " none is the first", p, 0, 0, 0, 0, 0, 0, 0, 0, 0);
        longRows(s);
        oneBehindAnother(s);
        String i = doc.sentence("DOWN: coins in the i-th SLOT of a CAR (i 0 .. ).");
        for (int till = 0; till < 12; till++) {
            CoinsWarden z = new CoinsWarden();
            z.car(0, till, 0, 0);
            due(i + " the last", z.down(0, till) >= 0 ? 1 : 0, 1);
            due(i + " behind it", z.down(0, till + 1), NONE);
            due(i + " ahead", z.down(0, -1), NONE);
        }
    }

    /** Coins in the first SLOT that last for some, and others later: what is left between must be told rightly. */
    private static void longRows(String s) {
        CoinsWarden x = withLaw("comes 0; comes 5 if slot = 1 or slot = 7; comes 9 if slot = 3; comes 8 if slot = 10");
        x.car(0, 11, 0, 8);
        x.terms(0, 9);
        x.terms(1, 4);
        x.terms(2, 66);
        due(s + " 9 for 0 .. 3, 17 for 7 .. 10", x.least(0, 0), 26 * ONE);
        rowOf(s + " one, and one in 7", x, 1, 0, 0, 0, 0, 0, 0, 1, 0, 0, 0, 0);
        CoinsWarden y = withLaw("comes 0; comes 7 if slot = 0 or slot = 4; comes 4 if slot = 1; comes 2 if slot = 6 or slot = 11");
        y.car(0, 11, 0, 2);
        y.terms(0, 9);
        y.terms(1, 3);
        y.terms(2, 67);
        due(s + " 9 for 0 .. 2, 11 for 4 .. 6, 11 for 11", y.least(0, 0), 31 * ONE);
        rowOf(s + " one in 0, in 4, in 11", y, 1, 0, 0, 0, 1, 0, 0, 0, 0, 0, 0, 1);
    }

    /** What was reckoned of a CAR that stays longer is not in what is asked of another one then. */
    private static void oneBehindAnother(String s) {
        for (int till = 0; till < 12; till++) {
            CoinsWarden x = new CoinsWarden();
            x.car(0, 11, 0, 9);
            x.car(0, till, 0, 9);
            for (int what = 0; what < 4; what++) {
                CoinsWarden alone = new CoinsWarden();
                alone.car(0, till, 0, 9);
                long want = alone.least(0, what);
                x.least(0, what);
                due(s + " least " + what + " behind another car", x.least(1, what), want);
                x.down(0, 0);
                due(s + " down behind another car", x.down(1, 0), alone.down(0, 0));
                due(s + " one slot, one coin", x.down(1, 0), till + 1);
            }
        }
    }

    private static void rowOf(String s, CoinsWarden x, int... coins) {
        for (int i = 0; i < coins.length; i++) {
            due(s + " in " + i, x.down(0, i), coins[i]);
        }
        due(s + " behind", x.down(0, coins.length), NONE);
    }

    private static void run(Document doc) {
        String s = doc.sentence("RUN: any number in each SLOT by what he did till then: the least; the lowest number in the first SLOT");
        CoinsWarden x = withLaw("comes 10; fines 1");
        x.car(3, 3, 0, 0);
        due(s + " as good: the lowest", x.run(0, 3, 12, 0), 0);
        due(s, x.least(0, 1), ONE);
        CoinsWarden y = withLaw("comes 10; fines 2 + since");
        y.car(3, 5, 0, 0);
        for (int since = 1; since <= 12; since++) {
            for (int left = 0; left <= 12; left++) {
                due(s + " one is enough if none is paid", y.run(0, 3, since, left), left == 0 ? 1 : 0);
                due(s + " one is enough if none is paid", y.run(0, 5, since, left), left == 0 ? 1 : 0);
            }
        }
        due(s, y.run(0, 3, 0, 0), NONE);
        due(s, y.run(0, 3, 13, 0), NONE);
        due(s, y.run(0, 3, 1, -1), NONE);
        due(s, y.run(0, 3, 1, 13), NONE);
        due(s, y.run(0, 2, 1, 0), NONE);
        due(s, y.run(0, 6, 1, 0), NONE);
        for (int from = 0; from < 12; from++) {
            for (int till = from; till < 12; till++) {
                CoinsWarden w = new CoinsWarden();
                w.car(from, till, 0, 9);
                due(s + " all paid at first", w.least(0, 1), (till - from + 1) * ONE);
                w.terms(2, 1);
                due(s + " a half each time", w.least(0, 1), (till - from + 1) * ONE / 2);
            }
        }
        CoinsWarden v = withLaw("comes 0; comes 10 if since = 12");
        v.car(0, 11, 0, 0);
        for (int since = 1; since <= 12; since++) {
            v.terms(4, since);
            due(s + " he comes once in twelve", v.least(0, 1), ONE);
            for (int slot = 0; slot < 12; slot++) {
                due(s + " just when he comes", v.run(0, slot, since, 0), since == 12 ? 1 : 0);
            }
        }
        String f = doc.sentence("if he came last as told by SINCE and did not come since.");
        CoinsWarden z = withLaw("comes 0; comes 10 if slot = 11 and since > 10");
        z.car(11, 11, 0, 0);
        for (int since = 1; since <= 12; since++) {
            z.terms(4, since);
            due(f + " then since is 12 in slot 11", z.run(0, 11, Math.min(12, since + 11), 0), 1);
            due(f + " and nothing else can be", z.least(0, 1), ONE);
        }
        due(f + " not told by SINCE", z.run(0, 11, 10, 0), 0);
        String p = doc.sentence("RUN: the lowest best number of coins of a CAR in a SLOT of its stay, with since and so many SLOTS paid 0 .. 12.");
        y.put(0, 0, 0);
        y.put(0, 1, 11);
        y.put(0, 3, 9);
        for (int left = 0; left <= 12; left++) {
            due(p + " twelve in all, as going down costs", y.run(0, 0, 1, left), 12 - left);
            due(p + " the last slot: a fine of 3 is less than 10", y.run(0, 11, 1, left), 0);
            due(p + " the last slot: a fine of 14 is more", y.run(0, 11, 12, left), left == 0 ? 1 : 0);
        }
    }

    private static void warned(Document doc) {
        String s = doc.sentence("may throw one coin more then (with FLIGHTS, in the first SLOT, too), if nothing is paid.");
        for (int flights = 0; flights <= 9; flights++) {
            CoinsWarden x = withLaw("comes 1");
            x.car(0, 0, 0, flights);
            x.terms(0, 4);
            due(s, x.least(0, 2), (4 + flights) * ONE / 10);
            x.terms(2, 4 + flights);
            due(s + " as much as the fine", x.least(0, 2), (4 + flights) * ONE / 10);
            x.terms(2, 3 + flights);
            due(s + " more than the fine", x.least(0, 2), (3 + flights) * ONE / 10);
        }
        CoinsWarden y = withLaw("comes 10 if slot = 0; comes 1 if slot > 0; spares if slot = 0");
        y.car(0, 1, 0, 1);
        y.terms(1, 2);
        y.terms(0, 9);
        y.terms(2, 99);
        due(s + " spared: he pays nothing, and is warned again", y.least(0, 2), ONE);
        CoinsWarden z = withLaw("comes 5");
        z.car(0, 0, 0, 3);
        due(s + " ahead is cheaper", z.least(0, 2), ONE);
        for (int per = 1; per <= 4; per++) {
            CoinsWarden p = withLaw("comes 0; comes 10 if slot = 0 or since = " + per + " or since > 4");
            p.car(0, 4, 0, 0);
            p.terms(1, per);
            int comings = 4 / per + 1;
            due(s + " a coin lasts till just ahead of his next coming", p.least(0, 2), comings * ONE);
            p.put(0, 1, per - 1);
            due(s + " one coin is enough", p.least(0, 2), ONE);
        }
        String l = doc.sentence("What DOWN (what 0), RUN (1), WARNED (2), SOUP (3) costs, is worth to a CAR (SEAT or not).");
        answered(l, 3, new Twin.Call[] {x -> x.least(0, -1), x -> x.least(0, 0), x -> x.least(0, 1), x -> x.least(0, 2),
            x -> x.least(0, 3), x -> x.least(0, 4)});
        CoinsWarden x = Twin.at(Twin::full);
        for (int car = 0; car < 6; car++) {
            long[] least = {x.least(car, 0), x.least(car, 1), x.least(car, 2), x.least(car, 3)};
            due(doc.sentence("SOUP: how much less RUN costs than DOWN."), least[3], least[0] - least[1]);
            so(l, least[2] <= least[1] && least[1] <= least[0] && least[0] <= x.cost(car, x.coins(car, 0)));
            x.put(car, 2, 1 - x.fact(car, 2));
            for (int what = 0; what < 4; what++) {
                due(l + " seat or not", x.least(car, what), least[what]);
            }
        }
    }

    private static void habitWords(Document doc) {
        String s = doc.sentence("(left: SLOTS that are paid from this one on, stay: SLOTS it was there ahead, more: SLOTS it stays"
            + " from this one on, since: as above for a CAR with SEAT, else -1)");
        CoinsWarden x = withLaw("comes 10");
        x.car(0, 11, 1, 0);
        x.terms(2, 0);
        String[] habits = {"throw slot", "throw stay", "throw more", "throw since"};
        long[] want = {66, 66, 78, 12 + 11};
        for (int n = 0; n < habits.length; n++) {
            due(s, Check.habit(x, habits[n]), n);
            due(s + " " + habits[n], x.habits(0, n), want[n] * ONE);
        }
        x.put(0, 2, 0);
        due(s + " without a seat -1", x.habits(0, 3), 0);
        due(s, Check.habit(x, "throw since + 1 + since + 2"), 4);
        due(s + " without a seat -1", x.habits(0, 4), 12 * ONE);
        x.put(0, 0, 11);
        long[] last = {11, 0, 1, 0};
        for (int n = 0; n < 4; n++) {
            due(s + " one slot " + habits[n], x.habits(0, n), last[n] * ONE);
        }
        due(s, Check.habit(x, "throw 1 if left = 0; throw 2 if left > 12"), 5);
        due(s + " none is paid at first", x.habits(0, 5), ONE);
        coinAndPer(doc);
        sinceGrows(doc);
        String a = doc.sentence("The HABIT that costs a CAR least, the lowest.");
        due(a + " 1 and 3 cost nothing", x.advice(0), 1);
        x.terms(2, 99);
        due(a, x.advice(0), 2);
        for (int best = 0; best < 6; best++) {
            CoinsWarden y = new CoinsWarden();
            y.car(0, 0, 0, 0);
            for (int n = 0; n < 6; n++) {
                Check.habit(y, n == best ? "throw 1" : "throw 2");
            }
            due(a + " each of six", y.advice(0), best);
        }
    }

    private static void coinAndPer(Document doc) {
        String s = doc.sentence("Words: \"slot\" | \"left\" | \"stay\" | \"more\" | \"since\" | \"coin\" | \"per\".");
        CoinsWarden x = new CoinsWarden();
        x.car(0, 0, 0, 0);
        Check.habit(x, "throw coin");
        Check.habit(x, "throw per");
        for (int coin = 1; coin <= 9; coin++) {
            x.terms(0, coin);
            due(s, x.habits(0, 0), coin * coin * ONE);
        }
        x.terms(0, 1);
        for (int per = 1; per <= 4; per++) {
            x.terms(1, per);
            due(s, x.habits(0, 1), per * ONE);
        }
    }

    private static void sinceGrows(Document doc) {
        String s = doc.sentence("Asked in each SLOT of a CAR ahead of his coming");
        CoinsWarden x = withLaw("comes 0; comes 10 if since = 12 and slot > 0");
        x.car(0, 11, 1, 0);
        x.terms(2, 0);
        Check.habit(x, "throw since");
        for (int first = 1; first <= 12; first++) {
            x.terms(4, first);
            int want = 0;
            int since = first;
            for (int slot = 0; slot < 12; slot++) {
                want += since;
                since = since == 12 && slot > 0 ? 1 : Math.min(12, since + 1);
            }
            due(s + " since " + first, x.habits(0, 0), want * ONE);
            x.day(0, 0);
            due(s + " since " + first, x.drawn(0, 2), want);
        }
        CoinsWarden y = withLaw("comes 10");
        y.car(0, 11, 1, 0);
        Check.habit(y, "throw 0");
        due(s + " nothing is paid, nor left", y.habits(0, 0), 480 * ONE);
        Check.habit(y, "throw 1 if stay = 0; throw 1 if left > 0");
        due(s + " one in the first, then none is left", y.habits(0, 1), (1 + 440) * ONE);
        Check.habit(y, "throw 2 if stay = 0; throw 1 if left > 0");
        due(s + " one is left in each", y.habits(0, 2), 13 * ONE);
    }

    private static void chalk(Document doc) {
        String s = doc.sentence("a mark that is LIMIT SLOTS old (1 .. 12) or more is fined, and is made anew.");
        CoinsWarden x = new CoinsWarden();
        for (int first = 0; first < 12; first++) {
            due(s + " one round alone", x.chalk(1 << first, 0, 1, 0), 0);
            for (int second = first + 1; second < 12; second++) {
                int rounds = 1 << first | 1 << second;
                int old = second - first;
                due(s + " just as old", x.chalk(rounds, 0, old, 0), 1);
                due(s + " not so old", x.chalk(rounds, 0, old + 1, 0), 0);
                due(s + " one move", x.chalk(rounds, 0, old, 1), 1);
                due(s + " the lowest", x.chalk(rounds, 0, old, 2), 2 << first);
                due(s + " no move", x.chalk(rounds, 0, old + 1, 1), 0);
                due(s + " no move", x.chalk(rounds, 0, old + 1, 2), 0);
            }
        }
        for (int limit = 1; limit <= 12; limit++) {
            due(s + " made anew", x.chalk(4095, 0, limit, 0), 11 / limit);
        }
        due(s + " no rounds", x.chalk(0, 4095, 1, 0), 0);
        due(s + " no rounds", x.chalk(0, 0, 12, 2), 0);
        String c = doc.sentence("in the first ROUND, and in each behind a move since the mark, he marks");
        int rounds = 1 << 4 | 1 << 8;
        for (int move = 0; move < 12; move++) {
            due(c, x.chalk(rounds, 1 << move, 4, 0), move > 4 && move <= 8 ? 0 : 1);
        }
        due(c + " two moves in a row are one", x.chalk(1 | 1 << 5 | 1 << 9, 1 << 2 | 1 << 3, 4, 0), 1);
        String f = doc.sentence("How often; the fewest moves by which never, the lowest as bits.");
        for (int bits = 0; bits < 4096; bits += 7) {
            int limit = 1 + bits % 12;
            int moves = x.chalk(bits, 0, limit, 2);
            due(f, x.chalk(bits, moves, limit, 0), 0);
            due(f, x.chalk(bits, 0, limit, 1), Integer.bitCount(moves));
            due(f, moves, Naive.chalkMoves(bits, limit));
        }
        String b = doc.sentence("CHALK: how often one is fined (what 0), the fewest moves (1; the told ones aside), which, as bits (2).");
        for (int moves : new int[] {0, 1, 2048, 4095}) {
            due(b, x.chalk(4095, moves, 1, 1), 11);
            due(b, x.chalk(4095, moves, 1, 2), 4094);
        }
        due(b + " all moves", x.chalk(4095, 4095, 1, 0), 0);
        due(b + " the last rounds", x.chalk(4095, 0, 12, 1), 0);
    }

    private static void game(Document doc) {
        String s = doc.sentence("or pays TOLL 0 .. 99");
        CoinsWarden x = new CoinsWarden();
        x.place(98, 99);
        due(s + " 99 is no more than the value", x.game(99, 2), 1);
        due(s, x.game(99, 0) * 100 + x.game(99, 1), 9901);
        due(s + " no toll", x.game(0, 2), 1);
        due(s + " no toll", x.game(0, 0) * 100 + x.game(0, 1), 1);
        due(s, x.game(100, 2), NONE);
        due(s, x.game(-1, 2), NONE);
        x.clear();
        x.place(0, 2);
        x.place(0, 2);
        String v = doc.sentence("in lowest terms (TOLL: if that is no more than the VALUE without)");
        due(v + " 2 / 2", x.game(99, 0) * 100 + x.game(99, 1), 101);
        due(v + " as much", x.game(1, 2), 1);
        due(v + " more", x.game(2, 2), 0);
        due(v + " more", x.game(2, 0), 1);
        x.place(1, 99);
        due(v + " one would not stand where one loses as much anyway", x.game(99, 0) * 100 + x.game(99, 1), 101);
        String g = doc.sentence("A GAME with a TOLL: the VALUE, upper (what 0), lower number (1), whether one pays the TOLL (2: 1, 0)");
        due(g + " what -1", x.game(99, -1), NONE);
        for (int toll = 0; toll <= 99; toll++) {
            due(g, x.game(toll, 0), Math.min(1, toll));
            due(g, x.game(toll, 1), 1);
            due(g, x.game(toll, 2), toll <= 1 ? 1 : 0);
        }
        String c = doc.sentence("his CHANCE of PLACE i, upper (3 + 2 i), lower (4 + 2 i).");
        due(c, x.game(99, 3) * 100 + x.game(99, 4), 102);
        due(c, x.game(99, 5) * 100 + x.game(99, 6), 102);
        due(c + " none", x.game(99, 7) * 100 + x.game(99, 8), 1);
        due(c + " no such place", x.game(99, 9), NONE);
        x.clear();
        for (int n = 1; n <= 6; n++) {
            x.place(0, 6);
            for (int what = 0; what < 16; what++) {
                so(c + " up to " + (2 + 2 * n), x.game(99, what) != NONE == what <= 2 + 2 * n);
            }
            for (int p = 0; p < n; p++) {
                due(c, x.game(99, 3 + 2 * p), 1);
                due(c, x.game(99, 4 + 2 * p), n);
                due(c + " toll or not", x.game(0, 4 + 2 * p), n);
            }
        }
        due(v, x.game(99, 0) * 100 + x.game(99, 1), 101);
        farFractions(v);
        oneByOne(v);
        equalLosses(doc);
    }

    /** PLACES of which one after the other is no longer stood at, in each order. */
    private static void oneByOne(String v) {
        int[][] places = {{6, 36}, {47, 99}, {61, 99}, {83, 99}, {86, 87}, {98, 99}};
        for (int first = 0; first < 6; first++) {
            CoinsWarden x = new CoinsWarden();
            for (int n = 0; n < 6; n++) {
                int[] p = places[(first + n) % 6];
                due(v, x.place(p[0], p[1]), n);
            }
            due(v + " at one alone", x.game(99, 0) * 100 + x.game(99, 1), 3601);
            for (int n = 0; n < 6; n++) {
                due(v + " he looks at that", x.game(99, 3 + 2 * n), (first + n) % 6 == 0 ? 1 : 0);
                due(v + " he looks at that", x.game(99, 4 + 2 * n), 1);
            }
        }
    }

    /** Random PLACES, at the bounds too: CHANCES add up to one, and what one loses is as it is said. */
    private static void equalLosses(Document doc) {
        String s = doc.sentence("(the one in which what one loses at each PLACE one would stand at is just the VALUE without TOLL)");
        java.util.Random random = new java.util.Random(8);
        for (int round = 0; round < 300; round++) {
            CoinsWarden x = new CoinsWarden();
            int places = 1 + random.nextInt(6);
            int[] loss = new int[places];
            int[] caught = new int[places];
            for (int p = 0; p < places; p++) {
                loss[p] = random.nextInt(round % 3 == 0 ? 99 : 20);
                caught[p] = loss[p] + 1 + random.nextInt(99 - loss[p]);
                due(s, x.place(loss[p], caught[p]), p);
            }
            double value = (double) x.game(99, 0) / x.game(99, 1);
            double sum = 0;
            for (int p = 0; p < places; p++) {
                double chance = (double) x.game(99, 3 + 2 * p) / x.game(99, 4 + 2 * p);
                sum += chance;
                double loses = loss[p] + chance * (caught[p] - loss[p]);
                so(s, chance > 0 ? Math.abs(loses - value) < 1e-9 : loses > value - 1e-9);
            }
            so(s + " one in all", Math.abs(sum - 1) < 1e-9);
        }
    }

    private static void farFractions(String v) {
        CoinsWarden x = new CoinsWarden();
        for (int n = 0; n < 6; n++) {
            x.place(0, 99);
        }
        due(v + " 99 / 6", x.game(99, 0) * 100 + x.game(99, 1), 3302);
        x.clear();
        for (int n = 0; n < 6; n++) {
            x.place(98, 99);
        }
        due(v + " 98 and a sixth", x.game(99, 0) * 100 + x.game(99, 1), 58906);
        due(v, x.game(98, 2), 1);
        due(v, x.game(99, 2), 0);
        x.clear();
        x.place(0, 1);
        x.place(97, 99);
        due(v + " far apart", x.game(99, 0) * 100 + x.game(99, 1), 101);
        due(v + " he looks at the one", x.game(99, 3) * 100 + x.game(99, 4), 101);
        due(v + " not at the other", x.game(99, 5) * 100 + x.game(99, 6), 1);
    }

    private static void town(Document doc) {
        String s = doc.sentence("less WAGE for each of the WARDENS; by which WARDENS 0 .. 3 and FINE 0 .. 99 it gets most"
            + " (the fewest WARDENS, then the lowest FINE).");
        CoinsWarden x = new CoinsWarden();
        for (int wardens = 0; wardens <= 3; wardens++) {
            x.terms(5, wardens);
            x.terms(6, 99);
            due(s + " no cars", x.town(0), -99 * wardens * ONE);
            x.terms(6, 0);
            due(s + " no cars, no wage", x.town(0), 0);
            for (int what = 1; what <= 3; what++) {
                due(s + " no cars: none", x.town(what), 0);
            }
        }
        for (int wardens = 0; wardens <= 3; wardens++) {
            CoinsWarden y = withLaw("comes 0; comes 10 if wardens = " + wardens);
            y.car(0, 0, 0, 0);
            y.terms(6, 0);
            y.terms(0, 9);
            due(s, y.town(2), wardens);
            due(s, y.town(3), 9);
            due(s, y.town(1), 9 * ONE);
            y.terms(6, 3);
            due(s + " nine is no more than the wages of three", y.town(2), wardens == 3 ? 0 : wardens);
            due(s, y.town(1), (9 - 3 * wardens) * ONE);
            y.terms(6, 99);
            due(s + " wages are too high", y.town(2), 0);
            due(s, y.town(3), wardens == 0 ? 9 : 0);
        }
        String g = doc.sentence("THE TOWN gets what all CARS pay AT FIRST by the best number on the mean");
        CoinsWarden all = Twin.at(Twin::full);
        long gets = -7 * ONE;
        for (int car = 0; car < 6; car++) {
            gets += all.cost(car, all.coins(car, 0));
        }
        due(g, all.town(0), gets);
        CoinsWarden z = withLaw("comes 1 if wardens > 0; comes 0 if wardens = 0; spares if stay < 11");
        z.car(0, 11, 0, 0);
        z.terms(6, 0);
        due(s + " the highest fine", z.town(3), 99);
        due(s + " the highest fine", z.town(1), 99 * ONE / 10);
        due(s + " the fewest wardens", z.town(2), 1);
        CoinsWarden more = withLaw("comes 10; fines wardens");
        more.car(0, 0, 0, 0);
        more.terms(0, 9);
        more.terms(6, 0);
        due(s + " no more than three wardens", more.town(2), 3);
        due(s + " no more than three wardens", more.town(1), 3 * ONE);
        due(s + " the lowest fine, as it is not asked", more.town(3), 0);
        String t = doc.sentence("THE TOWN as it is (what 0), the most (1), WARDENS (2), FINE (3) for that.");
        answered(t, 3, new Twin.Call[] {y -> y.town(-1), y -> y.town(0), y -> y.town(1), y -> y.town(2), y -> y.town(3), y -> y.town(4)});
        Twin.alike(CHECK, t + " nothing is changed by asking", asked(), Twin.at(Twin::some), 0);
    }

    private static CoinsWarden asked() {
        CoinsWarden x = Twin.at(Twin::some);
        for (int what = 0; what < 4; what++) {
            x.town(what);
        }
        return x;
    }

    private static void days(Document doc) {
        String s = doc.sentence("s is the SEED (0 .. 1,000,000); a DRAW of m: s becomes (s times 1103 and 12345) modulo 1,000,003,"
            + " it is s modulo m.");
        String b = doc.sentence("In each SLOT a DRAW of 10: below what he COMES he does");
        int[] seeds = {0, 1, 2, 500_000, 906_614, 999_999, 1_000_000};
        for (int comes = 0; comes <= 10; comes++) {
            CoinsWarden x = withLaw("comes " + comes);
            for (int seed : seeds) {
                long t = seed;
                int often = 0;
                int got = x.day(seed, NONE);
                for (int slot = 0; slot < 12; slot++) {
                    t = (t * 1103 + 12345) % 1_000_003;
                    int came = t % 10 < comes ? 1 : 0;
                    often += came;
                    due(b + " seed " + seed, x.drawn(slot, 3), came);
                }
                due(s + " seed " + seed, got, often);
                due(s, x.status(), 0);
            }
        }
        CoinsWarden x = withLaw("comes 5");
        x.day(0, NONE);
        due(b + " 12345: 5 is not below 5", x.drawn(0, 3), 0);
        Check.law(x, "comes 6");
        x.force(1);
        x.day(0, NONE);
        due(b + " 5 is below 6", x.drawn(0, 3), 1);
        due(s, x.day(-1, NONE), -1);
        due(s, x.day(1_000_001, NONE), -1);
        CoinsWarden y = withLaw("comes 0; comes 10 if since = 3");
        for (int since = 1; since <= 12; since++) {
            y.terms(4, since);
            due(s + " since " + since, y.day(0, NONE), since == 1 ? 4 : since <= 3 ? 4 : 0);
            due(s + " since " + since, y.drawn(0, 3), since == 3 ? 1 : 0);
        }
    }

    private static void latestDay(Document doc) {
        String s = doc.sentence("Of the latest DAY what a CAR paid (what 0), how often it was fined (1), coins (2)");
        CoinsWarden x = withLaw("comes 10; fines 3");
        for (int what = 0; what < 4; what++) {
            due(s + " ahead of any", x.drawn(0, what), NONE);
        }
        due(s, x.day(0, NONE), 12);
        due(s + " no cars", x.drawn(0, 0), NONE);
        due(s + " no cars", x.drawn(0, 3), 1);
        Check.habit(x, "throw 1 if stay = 1");
        for (int n = 0; n < 6; n++) {
            x.car(n, n + 2, 0, n);
        }
        due(s + " they came behind the day", x.drawn(0, 0), NONE);
        x.day(0, 0);
        for (int n = 0; n < 6; n++) {
            due(s, x.drawn(n, 0), 3 + 1 + n + 3);
            due(s, x.drawn(n, 1), 2);
            due(s, x.drawn(n, 2), 1);
        }
        due(s, x.drawn(6, 0), NONE);
        due(s, x.drawn(-1, 0), NONE);
        due(s, x.day(0, 1), -2);
        due(s + " a refused one is not kept", x.drawn(5, 0), 12);
        due(s, x.day(0, NONE), 12);
        for (int n = 0; n < 6; n++) {
            due(s + " at first by the best number", x.drawn(n, 0), 3);
            due(s + " at first by the best number", x.drawn(n, 1), 0);
            due(s + " at first by the best number", x.drawn(n, 2), 3);
        }
        CoinsWarden first = new CoinsWarden();
        first.car(2, 9, 0, 0);
        for (int round = 0; round < 3; round++) {
            due(s, first.day(3, NONE) >= 0 ? 1 : 0, 1);
            due(s + " each day anew", first.drawn(0, 2), 8);
            due(s + " each day anew", first.drawn(0, 0), 8);
            due(s + " each day anew", first.drawn(0, 1), 0);
        }
        CoinsWarden again = withLaw("comes 10");
        again.car(0, 0, 0, 0);
        again.terms(1, 4);
        Check.habit(again, "throw 1");
        Check.habit(again, "throw left");
        again.day(0, 0);
        due(s + " one coin for four", again.drawn(0, 2), 1);
        again.day(0, 1);
        due(s + " what was left then is not paid the next day", again.drawn(0, 1), 1);
        due(s + " what was left then is not paid the next day", again.drawn(0, 0), 40);
        String h = doc.sentence("ahead of that each CAR throws coins by a told HABIT (NONE: AT FIRST by the best number).");
        CoinsWarden y = withLaw("comes 10; fines 1");
        y.car(0, 11, 0, 0);
        y.day(0, NONE);
        due(h + " the lowest of the best", y.drawn(0, 2), 0);
        due(h + " the lowest of the best", y.drawn(0, 0), 12);
        Check.habit(y, "throw 1");
        y.day(0, 0);
        due(h + " ahead of his coming", y.drawn(0, 1), 0);
        due(h + " ahead of his coming", y.drawn(0, 0), 12);
    }

    public static void main(String[] args) throws IOException {
        Document doc = new Document(CHECK);
        paid(doc);
        flights(doc);
        fines(doc);
        exact(doc);
        atFirst(doc);
        down(doc);
        run(doc);
        warned(doc);
        habitWords(doc);
        chalk(doc);
        game(doc);
        town(doc);
        days(doc);
        latestDay(doc);
        CHECK.close("CostEdgesTest");
    }
}
