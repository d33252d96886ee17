import java.math.BigDecimal;
import java.math.BigInteger;
import java.util.ArrayList;
import java.util.HashMap;
import java.util.List;
import java.util.Map;

/** The document's meters once more, by looking at all 4,096 days one by one and at all rows of coins. */
final class Naive {
    static final long WHOLE = 1_000_000_000_000L;

    final List<int[]> cars = new ArrayList<>();
    final int[] terms = {1, 1, 40, 0, 12, 1, 20, 0};
    final List<NaiveText> laws = new ArrayList<>();
    final List<NaiveText> habits = new ArrayList<>();
    final List<int[]> places = new ArrayList<>();
    final List<int[]> slips = new ArrayList<>();
    int force = -1;

    private NaiveText law(int n) {
        return n < 0 ? null : laws.get(n);
    }

    private Map<String, Integer> words(int slot, int since, int car) {
        Map<String, Integer> w = new HashMap<>();
        w.put("slot", slot);
        w.put("since", since);
        w.put("rain", terms[3]);
        w.put("wardens", terms[5]);
        w.put("mood", terms[7]);
        w.put("car", car);
        w.put("stay", car < 0 ? -1 : slot - cars.get(car)[0]);
        return w;
    }

    private static int clamp(long v, int low, int high) {
        return (int) Math.max(low, Math.min(high, v));
    }

    int comes(int lawNumber, int slot, int since) {
        NaiveText law = law(lawNumber);
        Long told = law == null ? null : law.told("comes", words(slot, since, -1));
        return told == null ? 5 : clamp(told, 0, 10);
    }

    int fines(int slot, int since, int car) {
        NaiveText law = law(force);
        Long told = law == null ? null : law.told("fines", words(slot, since, car));
        return told == null ? terms[2] : clamp(told, 0, 99);
    }

    boolean spared(int slot, int since, int car) {
        NaiveText law = law(force);
        return law != null && law.told("spares", words(slot, since, car)) != null;
    }

    /** By each of the 4,096 days its weight; its since by slots stands in sinces. */
    private long[] weights(int lawNumber, int[][] sinces) {
        int[][] comes = new int[12][13];
        for (int s = 0; s < 12; s++) {
            for (int n = 1; n <= 12; n++) {
                comes[s][n] = comes(lawNumber, s, n);
            }
        }
        long[] all = new long[4096];
        for (int h = 0; h < 4096; h++) {
            long weight = 1;
            int since = terms[4];
            for (int s = 0; s < 12; s++) {
                sinces[h][s] = since;
                boolean came = (h >> s & 1) == 1;
                weight *= came ? comes[s][since] : 10 - comes[s][since];
                since = came ? 1 : Math.min(12, since + 1);
            }
            all[h] = weight;
        }
        return all;
    }

    long likely(int slot, int what) {
        long sum = 0;
        long[] w = weights(force, new int[4096][12]);
        for (int h = 0; h < 4096; h++) {
            boolean so = what == 0 ? (h >> slot & 1) == 1 : (h & ((1 << slot + 1) - 1)) == 0;
            sum += so ? w[h] : 0;
        }
        return sum;
    }

    long fits(int lawNumber, int cameIn) {
        long sum = 0;
        long[] w = weights(lawNumber, new int[4096][12]);
        for (int h = 0; h < 4096; h++) {
            boolean so = cameIn < 0 || (h >> cameIn & 1) == 1;
            for (int[] slip : slips) {
                so &= (h >> slip[0] & 1) == slip[1];
            }
            sum += so ? w[h] : 0;
        }
        return sum;
    }

    int which() {
        int best = -1;
        for (int n = 0; n < laws.size(); n++) {
            best = fits(n, -1) > fits(best, -1) ? n : best;
        }
        return best;
    }

    /** What is thrown in a slot: by a row of coins, by a habit. */
    interface Hand {
        int coins(int slot, int since, int left);
    }

    private int throwsBy(NaiveText habit, int car, int slot, int since, int left) {
        int[] c = cars.get(car);
        Map<String, Integer> w = new HashMap<>();
        w.put("slot", slot);
        w.put("left", left);
        w.put("stay", slot - c[0]);
        w.put("more", c[1] + 1 - slot);
        w.put("since", c[2] == 1 ? since : -1);
        w.put("coin", terms[0]);
        w.put("per", terms[1]);
        Long told = habit.told("throw", w);
        return told == null ? 0 : clamp(told, 0, 12);
    }

    /** Spent, fined, coins of a car on one day. */
    private int[] walk(int car, int day, int[] since, Hand hand, int[][] fines) {
        int[] c = cars.get(car);
        int[] told = new int[3];
        int left = 0;
        for (int s = c[0]; s <= c[1]; s++) {
            int k = hand.coins(s, since[s], left);
            told[2] += k;
            told[0] += k * terms[0] + (k > 0 && s != c[0] ? c[3] : 0);
            left = Math.min(12, left + k * terms[1]);
            if ((day >> s & 1) == 1 && left == 0 && fines[s][since[s]] >= 0) {
                told[0] += fines[s][since[s]];
                told[1]++;
            }
            left = Math.max(0, left - 1);
        }
        return told;
    }

    /** By slot and since; -1: spared. */
    private int[][] fineTable(int car) {
        int[][] t = new int[12][13];
        int[] c = cars.get(car);
        for (int s = c[0]; s <= c[1]; s++) {
            for (int n = 1; n <= 12; n++) {
                t[s][n] = spared(s, n, car) ? -1 : fines(s, n, car);
            }
        }
        return t;
    }

    private long mean(int car, Hand hand) {
        int[][] sinces = new int[4096][12];
        long[] w = weights(force, sinces);
        int[][] fines = fineTable(car);
        long sum = 0;
        for (int h = 0; h < 4096; h++) {
            if (w[h] != 0) {
                sum += w[h] * walk(car, h, sinces[h], hand, fines)[0];
            }
        }
        return sum;
    }

    long cost(int car, int n) {
        int from = cars.get(car)[0];
        return mean(car, (s, since, left) -> s == from ? n : 0);
    }

    long habitCost(int car, int habit) {
        int[][][] kept = new int[12][13][13];
        return mean(car, (s, since, left) -> {
            if (kept[s][since][left] == 0) {
                kept[s][since][left] = 1 + throwsBy(habits.get(habit), car, s, since, left);
            }
            return kept[s][since][left] - 1;
        });
    }

    int advice(int car) {
        int best = -1;
        for (int n = 0; n < habits.size(); n++) {
            best = best < 0 || habitCost(car, n) < habitCost(car, best) ? n : best;
        }
        return best;
    }

    /** The best number, then how many are as good. */
    int[] coins(int car) {
        long least = Long.MAX_VALUE;
        int[] told = new int[2];
        for (int n = 0; n <= 12; n++) {
            long c = cost(car, n);
            if (c < least) {
                least = c;
                told[0] = n;
                told[1] = 0;
            }
            told[1] += c == least ? 1 : 0;
        }
        return told;
    }

    /** Of all rows with at most as many coins as slots: the first of the best; its cost behind it. */
    long[] down(int car) {
        int[] c = cars.get(car);
        int length = c[1] - c[0] + 1;
        long[] fine = new long[length];
        int[][] sinces = new int[4096][12];
        long[] w = weights(force, sinces);
        int[][] fines = fineTable(car);
        for (int h = 0; h < 4096; h++) {
            for (int i = 0; i < length; i++) {
                int s = c[0] + i;
                if ((h >> s & 1) == 1 && fines[s][sinces[h][s]] > 0) {
                    fine[i] += w[h] * fines[s][sinces[h][s]];
                }
            }
        }
        long[] best = new long[length + 1];
        best[length] = Long.MAX_VALUE;
        int[] row = new int[length];
        boolean more = true;
        while (more) {
            long sum = 0;
            int left = 0;
            for (int i = 0; i < length; i++) {
                sum += WHOLE * (row[i] * terms[0] + (i > 0 && row[i] > 0 ? c[3] : 0));
                left = Math.min(12, left + row[i] * terms[1]);
                sum += left == 0 ? fine[i] : 0;
                left = Math.max(0, left - 1);
            }
            if (sum < best[length]) {
                best[length] = sum;
                for (int i = 0; i < length; i++) {
                    best[i] = row[i];
                }
            }
            int at = length - 1;
            while (at >= 0 && row[at] == length) {
                row[at--] = 0;
            }
            more = at >= 0;
            if (more) {
                row[at]++;
            }
        }
        return best;
    }

    private int foundCoins;

    private BigDecimal later(int car, int slot, int since, int left, boolean warned) {
        int[] c = cars.get(car);
        if (slot > c[1]) {
            return BigDecimal.ZERO;
        }
        int p = comes(force, slot, since);
        int fine = spared(slot, since, car) ? 0 : fines(slot, since, car);
        BigDecimal best = null;
        int bestCoins = 0;
        for (int k = 0; k <= c[1] - slot + 1; k++) {
            int paid = Math.min(12, left + k * terms[1]);
            BigDecimal came = later(car, slot + 1, 1, Math.max(0, paid - 1), warned);
            if (paid == 0) {
                came = came.add(BigDecimal.valueOf(fine));
                if (warned) {
                    BigDecimal saved = later(car, slot + 1, 1, terms[1] - 1, true)
                        .add(BigDecimal.valueOf(terms[0] + c[3]));
                    came = came.min(saved);
                }
            }
            BigDecimal away = later(car, slot + 1, Math.min(12, since + 1), Math.max(0, paid - 1), warned);
            BigDecimal sum = came.multiply(BigDecimal.valueOf(p)).add(away.multiply(BigDecimal.valueOf(10 - p)))
                .movePointLeft(1).add(BigDecimal.valueOf(k * terms[0] + (k > 0 && slot > c[0] ? c[3] : 0)));
            if (best == null || sum.compareTo(best) < 0) {
                best = sum;
                bestCoins = k;
            }
        }
        foundCoins = bestCoins;
        return best;
    }

    int run(int car, int slot, int since, int left) {
        later(car, slot, since, left, false);
        return foundCoins;
    }

    long runCost(int car, boolean warned) {
        int from = cars.get(car)[0];
        int[][] sinces = new int[4096][12];
        long[] w = weights(force, sinces);
        long[] bySince = new long[13];
        for (int h = 0; h < 4096; h++) {
            bySince[sinces[h][from]] += w[h];
        }
        BigDecimal sum = BigDecimal.ZERO;
        for (int n = 1; n <= 12; n++) {
            if (bySince[n] > 0) {
                sum = sum.add(later(car, from, n, 0, warned).multiply(BigDecimal.valueOf(bySince[n])));
            }
        }
        return sum.longValueExact();
    }

    long townNow() {
        long sum = 0;
        for (int c = 0; c < cars.size(); c++) {
            sum += cost(c, coins(c)[0]);
        }
        return sum - WHOLE * terms[5] * terms[6];
    }

    /** The most, wardens, fine; by fines up to that one alone, as all of them take long. */
    long[] townMost() {
        int wardens = terms[5];
        int fine = terms[2];
        long[] best = {Long.MIN_VALUE, 0, 0};
        for (terms[5] = 0; terms[5] <= 3; terms[5]++) {
            for (terms[2] = 0; terms[2] <= 99; terms[2]++) {
                long got = townNow();
                if (got > best[0]) {
                    best = new long[] {got, terms[5], terms[2]};
                }
            }
        }
        terms[5] = wardens;
        terms[2] = fine;
        return best;
    }

    static int chalkFines(int rounds, int moves, int limit) {
        int fines = 0;
        int age = -1;
        for (int s = 0; s < 12; s++) {
            age = (moves >> s & 1) == 1 || age < 0 ? -1 : age + 1;
            if ((rounds >> s & 1) == 1) {
                fines += age >= limit ? 1 : 0;
                age = age < 0 || age >= limit ? 0 : age;
            }
        }
        return fines;
    }

    static int chalkMoves(int rounds, int limit) {
        int best = 4095;
        for (int m = 4095; m >= 0; m--) {
            if (Integer.bitCount(m) <= Integer.bitCount(best) && chalkFines(rounds, m, limit) == 0) {
                best = m;
            }
        }
        return best;
    }

    /** The least of the values of all sets of places at which one would stand. */
    BigInteger[] value() {
        BigInteger[] best = null;
        for (int set = 1; set < 1 << places.size(); set++) {
            BigInteger product = BigInteger.ONE;
            for (int[] p : places) {
                product = product.multiply(BigInteger.valueOf(p[1] - p[0]));
            }
            BigInteger upper = product;
            BigInteger lower = BigInteger.ZERO;
            for (int i = 0; i < places.size(); i++) {
                if ((set >> i & 1) == 1) {
                    int[] p = places.get(i);
                    BigInteger share = product.divide(BigInteger.valueOf(p[1] - p[0]));
                    upper = upper.add(share.multiply(BigInteger.valueOf(p[0])));
                    lower = lower.add(share);
                }
            }
            if (best == null || upper.multiply(best[1]).compareTo(best[0].multiply(lower)) < 0) {
                best = new BigInteger[] {upper, lower};
            }
        }
        return lowest(best[0], best[1]);
    }

    BigInteger[] chance(int i) {
        BigInteger[] v = value();
        int[] p = places.get(i);
        BigInteger upper = v[0].subtract(v[1].multiply(BigInteger.valueOf(p[0])));
        return upper.signum() <= 0 ? new BigInteger[] {BigInteger.ZERO, BigInteger.ONE}
            : lowest(upper, v[1].multiply(BigInteger.valueOf(p[1] - p[0])));
    }

    private static BigInteger[] lowest(BigInteger a, BigInteger b) {
        BigInteger g = a.gcd(b);
        return new BigInteger[] {a.divide(g), b.divide(g)};
    }

    int dayBits;
    int[][] dayCars;

    int day(int seed, int habit) {
        int s = seed;
        int since = terms[4];
        int[] sinces = new int[12];
        dayBits = 0;
        for (int slot = 0; slot < 12; slot++) {
            s = (int) ((s * 1103L + 12345) % 1_000_003);
            sinces[slot] = since;
            boolean came = s % 10 < comes(force, slot, since);
            dayBits |= came ? 1 << slot : 0;
            since = came ? 1 : Math.min(12, since + 1);
        }
        dayCars = new int[cars.size()][];
        for (int c = 0; c < cars.size(); c++) {
            int car = c;
            int from = cars.get(c)[0];
            int best = habit < 0 ? coins(c)[0] : 0;
            Hand hand = habit < 0 ? (slot, n, left) -> slot == from ? best : 0
                : (slot, n, left) -> throwsBy(habits.get(habit), car, slot, n, left);
            dayCars[c] = walk(c, dayBits, sinces, hand, fineTable(c));
        }
        return Integer.bitCount(dayBits);
    }
}
