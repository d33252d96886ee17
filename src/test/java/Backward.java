import java.math.BigDecimal;

/**
 * RUN, WARNED and DOWN of a CAR once more, for stays of any length: from the last SLOT back, each number of coins
 * 0 .. 12 in each SLOT, whole days from SLOT 0 on. Naive looks at all rows of coins, which takes too long beyond
 * four SLOTS.
 */
final class Backward {
    private static final int SLOTS = 12;
    private static final BigDecimal TEN = BigDecimal.TEN;

    /** A row of coins from a SLOT on, one sign for each SLOT, and what it costs. */
    private record Row(BigDecimal cost, String coins) {
        boolean isAhead(Row other) {
            int dearer = cost.compareTo(other.cost);
            return dearer < 0 || dearer == 0 && coins.compareTo(other.coins) < 0;
        }
    }

    private final Naive naive;
    private final int[] car;
    private final boolean warned;
    private final int[][] comes = new int[SLOTS][SLOTS + 1];
    private final int[][] fines = new int[SLOTS][SLOTS + 1];
    private final BigDecimal[][][] kept = new BigDecimal[SLOTS + 1][SLOTS + 1][SLOTS + 1];
    private final Row[][] rows = new Row[SLOTS + 1][SLOTS + 1];

    Backward(Naive naive, int number, boolean warned) {
        this.naive = naive;
        this.warned = warned;
        car = naive.cars.get(number);
        for (int slot = 0; slot < SLOTS; slot++) {
            for (int since = 1; since <= SLOTS; since++) {
                comes[slot][since] = naive.comes(naive.force, slot, since);
                boolean there = slot >= car[0] && slot <= car[1];
                fines[slot][since] = !there || naive.spared(slot, since, number) ? 0
                    : naive.fines(slot, since, number);
            }
        }
    }

    private static BigDecimal number(long n) {
        return BigDecimal.valueOf(n);
    }

    /** The mean of two, by how he COMES. */
    private BigDecimal mean(int slot, int since, BigDecimal came, BigDecimal away) {
        return came.multiply(number(comes[slot][since])).add(away.multiply(number(10 - comes[slot][since])))
            .divide(TEN);
    }

    private int price(int coins, int slot) {
        return coins * naive.terms[0] + (coins > 0 && slot > car[0] ? car[3] : 0);
    }

    private BigDecimal with(int coins, int slot, int since, int left) {
        int paid = Math.min(SLOTS, left + coins * naive.terms[1]);
        int then = Math.max(0, paid - 1);
        BigDecimal came = from(slot + 1, 1, then);
        if (paid == 0) {
            came = came.add(number(fines[slot][since]));
            if (warned && slot >= car[0]) {
                BigDecimal saved = from(slot + 1, 1, naive.terms[1] - 1).add(number(naive.terms[0] + car[3]));
                came = came.min(saved);
            }
        }
        BigDecimal away = from(slot + 1, Math.min(SLOTS, since + 1), then);
        return number(price(coins, slot)).add(mean(slot, since, came, away));
    }

    /** The least that it costs from a SLOT on. */
    private BigDecimal from(int slot, int since, int left) {
        if (slot > car[1]) {
            return BigDecimal.ZERO;
        }
        if (kept[slot][since][left] == null) {
            BigDecimal least = with(0, slot, since, left);
            for (int coins = 1; coins <= 12 && slot >= car[0]; coins++) {
                least = least.min(with(coins, slot, since, left));
            }
            kept[slot][since][left] = least;
        }
        return kept[slot][since][left];
    }

    private static long parts(BigDecimal whole) {
        return whole.multiply(number(Naive.WHOLE)).longValueExact();
    }

    /** RUN, or WARNED. */
    long least() {
        return parts(from(0, naive.terms[4], 0));
    }

    int coins(int slot, int since, int left) {
        int coins = 0;
        while (with(coins, slot, since, left).compareTo(from(slot, since, left)) != 0) {
            coins++;
        }
        return coins;
    }

    /** What is fined on the mean in one SLOT, if none is paid there. */
    private BigDecimal fined(int in, int slot, int since) {
        if (slot == in) {
            return mean(slot, since, number(fines[slot][since]), BigDecimal.ZERO);
        }
        return mean(slot, since, fined(in, slot + 1, 1), fined(in, slot + 1, Math.min(SLOTS, since + 1)));
    }

    private Row rowFrom(int slot, int left, BigDecimal[] fined) {
        if (slot > car[1]) {
            return new Row(BigDecimal.ZERO, "");
        }
        if (rows[slot][left] == null) {
            Row best = null;
            for (int coins = 0; coins <= 12; coins++) {
                int paid = Math.min(SLOTS, left + coins * naive.terms[1]);
                Row behind = rowFrom(slot + 1, Math.max(0, paid - 1), fined);
                BigDecimal cost = behind.cost.add(number(price(coins, slot)));
                Row row = new Row(paid == 0 ? cost.add(fined[slot]) : cost, (char) ('a' + coins) + behind.coins);
                best = best == null || row.isAhead(best) ? row : best;
            }
            rows[slot][left] = best;
        }
        return rows[slot][left];
    }

    /** DOWN: the coins by SLOTS, behind them what they cost. */
    long[] down() {
        BigDecimal[] fined = new BigDecimal[SLOTS];
        for (int slot = car[0]; slot <= car[1]; slot++) {
            fined[slot] = fined(slot, 0, naive.terms[4]);
        }
        Row best = rowFrom(car[0], 0, fined);
        int length = car[1] - car[0] + 1;
        long[] told = new long[length + 1];
        for (int i = 0; i < length; i++) {
            told[i] = best.coins.charAt(i) - 'a';
        }
        told[length] = parts(best.cost);
        return told;
    }
}
