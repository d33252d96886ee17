import java.util.ArrayList;
import java.util.List;
import java.util.Random;

/**
 * What an object answers is told by what stands, not by what it was asked or REFUSED ahead, nor in which order: an
 * object that is used on and on (its rows are used again) beside new ones to which only those calls were made that
 * were not REFUSED.
 */
public final class OrderTest {
    private static final Check CHECK = new Check();
    private static final String[] LAWS = {
        "comes since", "comes 10 - since; fines 2 * stay + 3", "comes 7 if since > 2; spares if car = 1 and stay < 2",
        "fines 9; fines 30 if slot > 5 or mood = 3; comes 3 + wardens", "comes 2; comes 9 if not (since < 4 or rain > 5)",
        "spares if since = 1; comes [since + rain] % 11; fines 50 - slot * 3",
        "comes [[[[[[[[since]]]]]]]]", "fines 20 if ((((((((slot > 4)))))))); comes 4",
        "comes 1+1+1+1+1+1+1+1-1-1-1-1-1-1+0+0+0+0+0+0+0+0+0+0+0+0+0+0+0+0+0+0+0+0+0+0+0+0+0+0+0+0+0+0+0+0+0+0+slot/4"};
    private static final String[] HABITS = {
        "throw 1 if left = 0", "throw more if stay = 0", "throw 1 if since > 3 and left = 0; throw 2 if slot = 6",
        "throw [more + per - 1] / per if left = 0 and coin < 4", "throw since % 3 if not left > 1",
        "throw 0*1*1*1*1*1*1*1*1*1*1*1*1*1*1*1*1*1*1*1*1*1*1*1*1*1*1*1*1*1*1*1*1*1*1*1*1*1*1*1*1*1*1*1*1*1*1*1+1 % 2"};
    private static final String[] BAD = {
        "", "comes", "throw [[[[1", "comes 1 if ((((slot = 1", "comes 1;", "throw [[[[[[[[[1]", "fines 1 + 2 + 3 + x",
        "comes 5 if not not (slot = 1 and (since = 2 or [rain", "spares if 1 = 1 and", "throw 1 if (left = 0]", "x",
        "comes 1+1+1+1+1+1+1+1+1+1+1+1+1+1+1+1+1+1+1+1+1+1+1+1+1+1+1+1+1+1+1+1+1+1+1+1+1+1+1+1+1+1+1+1+1+1+1+1+1+1+1"};

    private final Random random;
    private final CoinsWarden x = new CoinsWarden();
    private final List<Twin.Way> made = new ArrayList<>();

    private OrderTest(int seed) {
        random = new Random(seed);
    }

    private int any(int bound) {
        return random.nextInt(bound);
    }

    private static String oneOf(String[] texts, int n) {
        return texts[n % texts.length];
    }

    private Twin.Way text() {
        int n = any(1000);
        int kind = any(5);
        return switch (kind) {
            case 0, 1 -> y -> Check.law(y, oneOf(LAWS, n));
            case 2, 3 -> y -> Check.habit(y, oneOf(HABITS, n));
            default -> n % 2 == 0 ? y -> Check.law(y, oneOf(BAD, n / 2)) : y -> Check.habit(y, oneOf(BAD, n / 2));
        };
    }

    private Twin.Way change() {
        int[] n = {any(12), any(12), any(2), any(10), any(6), any(8)};
        int fine = any(3) == 0 ? any(100) : any(15);
        return switch (any(16)) {
            case 0, 1 -> y -> y.car(n[0] / 2, n[0] / 2 + n[1] / 2, n[2], n[3] / 3);
            case 2, 3 -> y -> y.put(n[4], n[3] % 4, n[0]);
            case 4 -> y -> y.terms(n[5], n[0]);
            case 5 -> y -> y.terms(2, fine);
            case 6 -> y -> y.terms(0, 1 + n[2]);
            case 7, 8 -> y -> y.force(n[4] - 1);
            case 9 -> y -> y.place(n[0] + n[1], n[0] + 9 * n[5]);
            case 10 -> y -> y.slip(n[0], n[2]);
            case 11 -> n[3] < 5 ? y -> y.undo() : y -> y.back(n[2]);
            case 12 -> y -> y.image(n[2]);
            default -> text();
        };
    }

    private static long dayOn(CoinsWarden y, int seed, int habit) {
        long told = y.day(seed, habit);
        for (int n = 0; n < 18; n++) {
            told = told * 31 + y.drawn(n / 3, n % 3);
        }
        for (int slot = 0; slot < 12; slot++) {
            told = told * 31 + y.drawn(slot, 3);
        }
        return told;
    }

    private Twin.Call ask() {
        int car = any(Math.max(1, x.count(0)));
        int slot = any(12);
        int since = 1 + any(12);
        int n = any(13);
        int law = any(x.count(1) + 1) - 1;
        int habit = any(x.count(2) + 1) - 1;
        return switch (any(18)) {
            case 0 -> y -> y.asks(slot, since, car, n % 3);
            case 1 -> y -> y.likely(slot, n % 2);
            case 2 -> y -> y.cost(car, n);
            case 3 -> y -> y.coins(car, n % 2);
            case 4, 5, 6 -> y -> y.least(car, n % 4);
            case 7 -> y -> y.down(car, n);
            case 8, 9, 10 -> y -> y.run(car, slot, since, n > 6 ? 0 : n);
            case 11 -> y -> y.habits(car, habit);
            case 12 -> y -> y.advice(car);
            case 13 -> y -> y.game(slot * 3, n);
            case 14 -> y -> y.town(n % 4);
            case 15 -> y -> y.fits(law);
            case 16 -> n > 6 ? y -> y.which() : y -> y.went(slot);
            default -> y -> dayOn(y, 977 * slot + n, habit);
        };
    }

    private CoinsWarden anew() {
        CoinsWarden y = new CoinsWarden();
        for (Twin.Way way : made) {
            way.go(y);
        }
        return y;
    }

    private void go(int steps, boolean manyTexts) {
        for (int n = 0; n < steps; n++) {
            Twin.Way way = manyTexts && any(2) == 0 ? text() : change();
            CoinsWarden fresh = anew();
            way.go(x);
            way.go(fresh);
            CHECK.due("status at step " + n + " of a used object", x.status(), fresh.status());
            if (x.status() == 0) {
                made.add(way);
            }
            for (int asked = any(4); asked > 0; asked--) {
                Twin.Call call = ask();
                CHECK.due("step " + n + " of a used object", call.on(x), call.on(anew()));
            }
        }
    }

    /** What is asked ahead of a call, each kind beside each other one, changes nothing. */
    private static void pairs() {
        List<Twin.Call> calls = List.of(y -> y.asks(3, 2, 0, 1), y -> y.likely(3, 1), y -> y.cost(0, 1),
            y -> y.coins(0, 1), y -> y.least(0, 0), y -> y.least(0, 1), y -> y.least(0, 2), y -> y.least(0, 3),
            y -> y.down(0, 2), y -> y.run(0, 0, 12, 0), y -> y.run(0, 2, 2, 0), y -> y.habits(0, 0),
            y -> y.habits(1, 1), y -> y.advice(1), y -> y.chalk(73, 0, 3, 2), y -> y.game(99, 0), y -> y.game(7, 5),
            y -> y.town(0), y -> y.town(1), y -> y.town(3), y -> y.fits(0), y -> y.which(), y -> y.went(5),
            y -> dayOn(y, 5, -1), y -> dayOn(y, 6, 1), y -> Check.law(y, "comes [[["), y -> Check.habit(y, "throw 1 if ((("),
            y -> y.least(1, 2), y -> y.run(1, 3, 3, 0), y -> y.run(1, 4, 1, 1));
        Twin.Way way = y -> {
            Twin.some(y);
            y.terms(2, 30);
            y.put(0, 0, 0);
            y.put(0, 3, 0);
            y.end(0);
        };
        for (int one = 0; one < calls.size(); one++) {
            for (int other = 0; other < calls.size(); other++) {
                CoinsWarden x = Twin.at(way);
                calls.get(one).on(x);
                CHECK.due("call " + other + " behind " + one, calls.get(other).on(x), calls.get(other).on(Twin.at(way)));
            }
        }
    }

    public static void main(String[] args) {
        for (int seed = 0; seed < 200; seed++) {
            new OrderTest(seed).go(seed % 2 == 0 ? 36 : 24, seed % 2 == 1);
        }
        pairs();
        CHECK.close("OrderTest");
    }
}
