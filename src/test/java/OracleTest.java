import java.math.BigInteger;
import java.util.Random;

/** Random states, each answer beside that of the naive model. */
public final class OracleTest {
    private static final Check CHECK = new Check();
    private static final String[] LAW_WORDS = {"slot", "since", "rain", "wardens", "car", "stay", "mood"};
    private static final String[] HABIT_WORDS = {"slot", "left", "stay", "more", "since", "coin", "per"};

    private final Random random;
    private final CoinsWarden x = new CoinsWarden();
    private final Naive naive = new Naive();
    private boolean law;
    private int parts;

    private OracleTest(int seed) {
        random = new Random(seed);
    }

    private int any(int bound) {
        return random.nextInt(bound);
    }

    private String part(int depth) {
        if (depth > 0 && any(6) == 0) {
            return "[" + sum(depth - 1) + "]";
        }
        parts++;
        if (any(2) == 0) {
            return (law ? LAW_WORDS : HABIT_WORDS)[any(7)];
        }
        int kind = any(12);
        return kind == 0 ? "1000" : kind == 1 ? "" + any(1001) : "" + any(14);
    }

    private String term(int depth) {
        StringBuilder s = new StringBuilder(part(depth));
        while (any(4) == 0) {
            s.append(gap()).append("*/%".charAt(any(3))).append(gap()).append(part(depth));
        }
        return s.toString();
    }

    private String sum(int depth) {
        StringBuilder s = new StringBuilder(term(depth));
        while (any(3) == 0) {
            s.append(gap()).append("+-".charAt(any(2))).append(gap()).append(term(depth));
        }
        return s.toString();
    }

    private String gap() {
        return any(3) == 0 ? " " : "";
    }

    private String plain(int depth) {
        if (any(6) == 0) {
            return "not " + plain(depth);
        }
        if (depth > 0 && any(4) == 0) {
            return "(" + test(depth - 1) + ")";
        }
        return sum(depth) + gap() + "<>=".charAt(any(3)) + gap() + sum(depth);
    }

    private String test(int depth) {
        StringBuilder s = new StringBuilder(plain(depth));
        while (any(3) == 0) {
            s.append(any(2) == 0 ? " and " : " or ").append(plain(depth));
        }
        return s.toString();
    }

    private String clause() {
        String verb = law ? new String[] {"comes", "fines", "spares", "comes"}[any(4)] : "throw";
        String s = verb.equals("spares") ? verb : verb + " " + sum(3);
        return any(4) == 0 ? s : s + " if " + test(3);
    }

    private String text() {
        while (true) {
            parts = 0;
            StringBuilder s = new StringBuilder(clause());
            while (any(3) > 0) {
                s.append(gap()).append(';').append(gap()).append(clause());
            }
            if (s.length() <= 400 && NaiveText.fault(s.toString(), law) == -1) {
                return s.toString();
            }
        }
    }

    private String spoiled(String s) {
        StringBuilder b = new StringBuilder(s);
        for (int n = any(3); n >= 0; n--) {
            int at = any(b.length() + 1);
            switch (any(4)) {
                case 0 -> b.insert(at, "([)];<+% not and if slot 7x\001".charAt(any(28)));
                case 1 -> b.setLength(at);
                case 2 -> b.delete(at, Math.min(b.length(), at + 1 + any(4)));
                default -> b.insert(at, b.substring(any(at + 1), at));
            }
        }
        return b.length() > 400 ? b.substring(0, 400) : b.toString();
    }

    private void readSpoiled() {
        String bad = spoiled(text());
        CoinsWarden y = new CoinsWarden();
        int fault = NaiveText.fault(bad, law);
        CHECK.due("read " + bad, law ? Check.law(y, bad) : Check.habit(y, bad), fault == -1 ? 0 : -6);
        CHECK.due("fault of " + bad, y.fault(), fault);
        CHECK.due("tape behind " + bad, y.count(5), 0);
    }

    private void buildTexts() {
        law = true;
        for (int n = any(4); n > 0; n--) {
            String s = text();
            CHECK.due(s, Check.law(x, s), naive.laws.size());
            naive.laws.add(new NaiveText(s));
        }
        for (int n = 0; n < 4; n++) {
            readSpoiled();
        }
        law = false;
        for (int n = any(4); n > 0; n--) {
            String s = text();
            CHECK.due(s, Check.habit(x, s), naive.habits.size());
            naive.habits.add(new NaiveText(s));
        }
        for (int n = 0; n < 4; n++) {
            readSpoiled();
        }
        naive.force = any(naive.laws.size() + 1) - 1;
        x.force(naive.force);
    }

    private void build(int longest) {
        buildTexts();
        int[] low = {1, 1, 0, 0, 1, 0, 0, 0};
        int[] high = {9, 4, 99, 9, 12, 3, 99, 9};
        for (int t = 0; t < 8; t++) {
            int value = low[t] + any(high[t] - low[t] + 1);
            if (t == 2 && any(2) == 0) {
                value = any(10);
            }
            CHECK.due("terms", x.terms(t, value), naive.terms[t]);
            naive.terms[t] = value;
        }
        for (int n = 1 + any(3); n > 0; n--) {
            int from = any(12);
            int[] car = {from, Math.min(11, from + any(longest)), any(2), any(10)};
            CHECK.due("car", x.car(car[0], car[1], car[2], car[3]), naive.cars.size());
            naive.cars.add(car);
        }
        for (int n = any(7); n > 0; n--) {
            int loss = any(99);
            int[] place = {loss, loss + 1 + any(99 - loss)};
            x.place(place[0], place[1]);
            naive.places.add(place);
        }
        for (int slot = 0; slot < 12; slot++) {
            if (any(3) == 0) {
                int[] slip = {slot, any(2)};
                x.slip(slip[0], slip[1]);
                naive.slips.add(slip);
            }
        }
    }

    private void askWarden() {
        for (int n = 0; n < 40; n++) {
            int slot = any(12);
            int since = 1 + any(12);
            int car = any(naive.cars.size());
            boolean there = slot >= naive.cars.get(car)[0] && slot <= naive.cars.get(car)[1];
            CHECK.due("asks comes", x.asks(slot, since, car, 0), naive.comes(naive.force, slot, since));
            CHECK.due("asks fines", x.asks(slot, since, car, 1), there ? naive.fines(slot, since, car) : -1);
            CHECK.due("asks spares", x.asks(slot, since, car, 2),
                there ? naive.spared(slot, since, car) ? 1 : 0 : -1);
        }
        int slot = any(12);
        CHECK.due("likely", x.likely(slot, 0), naive.likely(slot, 0));
        CHECK.due("likely none", x.likely(slot, 1), naive.likely(slot, 1));
        CHECK.due("went", x.went(slot), naive.fits(naive.force, slot));
        for (int n = -1; n < naive.laws.size(); n++) {
            CHECK.due("fits", x.fits(n), naive.fits(n, -1));
        }
        CHECK.due("which", x.which(), naive.which());
    }

    private void askCosts() {
        for (int c = 0; c < naive.cars.size(); c++) {
            int n = any(13);
            CHECK.due("cost", x.cost(c, n), naive.cost(c, n));
            int[] coins = naive.coins(c);
            CHECK.due("coins", x.coins(c, 0), coins[0]);
            CHECK.due("coins alike", x.coins(c, 1), coins[1]);
            for (int h = 0; h < naive.habits.size(); h++) {
                CHECK.due("habits", x.habits(c, h), naive.habitCost(c, h));
            }
            CHECK.due("advice", x.advice(c), naive.advice(c));
        }
        CHECK.due("town", x.town(0), naive.townNow());
    }

    private void askPlans() {
        for (int c = 0; c < naive.cars.size(); c++) {
            int[] car = naive.cars.get(c);
            long[] down = naive.down(c);
            int length = car[1] - car[0] + 1;
            long run = naive.runCost(c, false);
            CHECK.due("least down", x.least(c, 0), down[length]);
            CHECK.due("least run", x.least(c, 1), run);
            CHECK.due("least warned", x.least(c, 2), naive.runCost(c, true));
            CHECK.due("least soup", x.least(c, 3), down[length] - run);
            for (int i = 0; i < length; i++) {
                CHECK.due("down " + i, x.down(c, i), down[i]);
            }
            for (int n = 0; n < 5; n++) {
                int slot = car[0] + any(length);
                int since = 1 + any(12);
                int left = any(3) == 0 ? 0 : any(13);
                CHECK.due("run", x.run(c, slot, since, left), naive.run(c, slot, since, left));
            }
        }
    }

    private void askLongPlans() {
        for (int c = 0; c < naive.cars.size(); c++) {
            int[] car = naive.cars.get(c);
            int length = car[1] - car[0] + 1;
            Backward run = new Backward(naive, c, false);
            long[] down = run.down();
            CHECK.due("long down", x.least(c, 0), down[length]);
            CHECK.due("long run", x.least(c, 1), run.least());
            CHECK.due("long warned", x.least(c, 2), new Backward(naive, c, true).least());
            CHECK.due("long soup", x.least(c, 3), down[length] - run.least());
            for (int i = 0; i < length; i++) {
                CHECK.due("long down " + i, x.down(c, i), down[i]);
            }
            for (int n = 0; n < 20; n++) {
                int slot = car[0] + any(length);
                int since = 1 + any(12);
                int left = any(3) == 0 ? any(13) : 0;
                CHECK.due("long run", x.run(c, slot, since, left), run.coins(slot, since, left));
            }
        }
    }

    private void askGame() {
        int toll = any(100);
        if (naive.places.isEmpty()) {
            CHECK.due("game without places", x.game(toll, 0), -1);
            return;
        }
        BigInteger[] value = naive.value();
        boolean pays = BigInteger.valueOf(toll).multiply(value[1]).compareTo(value[0]) <= 0;
        CHECK.due("game upper", x.game(toll, 0), pays ? toll : value[0].longValueExact());
        CHECK.due("game lower", x.game(toll, 1), pays ? 1 : value[1].longValueExact());
        CHECK.due("game pays", x.game(toll, 2), pays ? 1 : 0);
        for (int i = 0; i < naive.places.size(); i++) {
            BigInteger[] chance = naive.chance(i);
            CHECK.due("chance upper", x.game(toll, 3 + 2 * i), chance[0].longValueExact());
            CHECK.due("chance lower", x.game(toll, 4 + 2 * i), chance[1].longValueExact());
        }
    }

    private void askDay() {
        for (int h = -1; h < naive.habits.size(); h++) {
            int seed = any(1_000_001);
            CHECK.due("day", x.day(seed, h), naive.day(seed, h));
            for (int slot = 0; slot < 12; slot++) {
                CHECK.due("drawn slot", x.drawn(slot, 3), naive.dayBits >> slot & 1);
            }
            for (int c = 0; c < naive.cars.size(); c++) {
                for (int what = 0; what < 3; what++) {
                    CHECK.due("drawn " + what, x.drawn(c, what), naive.dayCars[c][what]);
                }
            }
        }
    }

    private void askChalk() {
        for (int n = 0; n < 5; n++) {
            int rounds = any(4096);
            int moves = any(4096);
            int limit = 1 + any(12);
            int best = Naive.chalkMoves(rounds, limit);
            CHECK.due("chalk fines", x.chalk(rounds, moves, limit, 0), Naive.chalkFines(rounds, moves, limit));
            CHECK.due("chalk fewest", x.chalk(rounds, moves, limit, 1), Integer.bitCount(best));
            CHECK.due("chalk which", x.chalk(rounds, moves, limit, 2), best);
        }
    }

    public static void main(String[] args) {
        for (int seed = 0; seed < 150; seed++) {
            OracleTest t = new OracleTest(seed);
            t.build(12);
            t.askWarden();
            t.askCosts();
            t.askGame();
            t.askDay();
            t.askChalk();
        }
        for (int seed = 1000; seed < 1150; seed++) {
            OracleTest t = new OracleTest(seed);
            t.build(4);
            t.askPlans();
        }
        for (int seed = 3000; seed < 3060; seed++) {
            OracleTest t = new OracleTest(seed);
            t.build(12);
            t.askLongPlans();
        }
        for (int seed = 2000; seed < 2004; seed++) {
            OracleTest t = new OracleTest(seed);
            t.build(12);
            long[] most = t.naive.townMost();
            for (int what = 0; what < 3; what++) {
                CHECK.due("town " + (what + 1), t.x.town(what + 1), most[what]);
            }
        }
        CHECK.close("OracleTest");
    }
}
