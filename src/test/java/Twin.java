import java.util.ArrayList;
import java.util.List;

/** Objects brought to the same state by the same calls, and all that can be asked of one. */
final class Twin {
    /** Calls that bring an object to a state, or change it. */
    interface Way {
        void go(CoinsWarden x);
    }

    /** One call, with its answer. */
    interface Call {
        long on(CoinsWarden x);
    }

    static final int CARS_OF_SOME = 3;

    private Twin() {
    }

    static CoinsWarden at(Way way) {
        CoinsWarden x = new CoinsWarden();
        way.go(x);
        return x;
    }

    static void empty(CoinsWarden x) {
    }

    /** Some of everything; CARS 0 .. 2 are all there in SLOT 3; IMAGE 0 alone is kept; status() is -3. */
    static void some(CoinsWarden x) {
        Check.law(x, "comes since; fines 3 * stay + 1; spares if car = 1 and slot = 4");
        Check.law(x, "comes 2");
        Check.habit(x, "throw 1 if left = 0");
        Check.habit(x, "throw more if stay = 0");
        Check.law(x, "comes x");
        x.car(1, 4, 1, 2);
        x.car(3, 9, 0, 0);
        x.place(2, 9);
        x.place(5, 20);
        x.slip(2, 1);
        x.slip(7, 0);
        x.terms(0, 2);
        x.terms(3, 4);
        x.terms(4, 5);
        x.force(0);
        x.image(0);
        Check.feed(x, new byte[] {9, 8, 7});
        x.row();
        x.car(3, 3, 0, 9);
        x.day(77, 1);
        Check.feed(x, new byte[] {1, 2, 0, 3, 4});
        x.put(0, 1, 0);
    }

    /** No room for anything; both IMAGES are kept, IMAGE 1 of a state with room; status() is 0. */
    static void full(CoinsWarden x) {
        for (int n = 0; n < 6; n++) {
            x.car(n, 6 + n, n % 2, n);
            Check.law(x, "comes " + (n + 2));
            Check.habit(x, "throw " + n);
            x.place(3 * n, 40 + n);
            x.slip(11 - n, n % 2);
            if (n == 2) {
                x.image(1);
            }
        }
        for (int slot = 0; slot < 6; slot++) {
            x.slip(slot, 1 - slot % 2);
        }
        x.force(4);
        x.terms(6, 7);
        x.image(0);
        x.day(4, 3);
        for (int n = 0; n < 20; n++) {
            x.feed(0x02050103, 0x04040009, 0x0c0c0000, 0x00000000 + n % 10, 0x01010101);
        }
    }

    static int[] refusals(CoinsWarden x) {
        int[] by = new int[5];
        for (int n = 0; n < 5; n++) {
            by[n] = x.count(6 + n);
        }
        return by;
    }

    /** All that can be asked but status() and the numbers of calls that were REFUSED; then IMAGES and TAPE are used up. */
    static List<Long> all(CoinsWarden x) {
        List<Long> told = new ArrayList<>();
        told.add((long) x.fault());
        told.add((long) x.tar());
        told.add((long) x.count(5));
        for (int slot = 0; slot < 12; slot++) {
            told.add((long) x.drawn(slot, 3));
        }
        for (int n = 0; n < 18; n++) {
            told.add((long) x.drawn(n / 3, n % 3));
        }
        told.addAll(kept(x));
        for (int k = 0; k < 2; k++) {
            told.add((long) x.back(k));
            told.addAll(counts(x));
        }
        told.add((long) x.row());
        told.add((long) x.tar());
        told.addAll(counts(x));
        return told;
    }

    /** What an IMAGE keeps, as far as it can be asked without a change. */
    static List<Long> kept(CoinsWarden x) {
        List<Long> told = counts(x);
        for (int car = 0; car < 6; car++) {
            told.add((long) x.asks(4, 3, car, 1));
            told.add((long) x.asks(4, 3, car, 2));
            told.add(x.cost(car, 1));
            told.add((long) x.coins(car, 0));
            told.add(x.least(car, 1));
            told.add((long) x.advice(car));
            told.add(x.habits(0, car));
        }
        for (int what = 0; what < 15; what++) {
            told.add(x.game(99, what));
        }
        told.add(x.town(0));
        told.add(x.town(1));
        for (int law = -1; law < 6; law++) {
            told.add(x.fits(law));
        }
        for (int slot = 0; slot < 12; slot++) {
            told.add(x.went(slot));
        }
        return told;
    }

    private static List<Long> counts(CoinsWarden x) {
        List<Long> told = new ArrayList<>();
        for (int what = 0; what < 20; what++) {
            if (what < 5 || what > 10) {
                told.add((long) x.count(what));
            }
        }
        for (int n = 0; n < 24; n++) {
            told.add((long) x.fact(n / 4, n % 4));
        }
        return told;
    }

    /** Two objects answer alike, from the n-th answer on. */
    static void alike(Check check, String what, CoinsWarden x, CoinsWarden y, int from) {
        List<Long> one = all(x);
        List<Long> other = all(y);
        for (int n = from; n < one.size(); n++) {
            check.due(what + ": answer " + n + " of all that can be asked", one.get(n), other.get(n));
        }
    }
}
