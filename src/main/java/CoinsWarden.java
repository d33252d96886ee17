import java.util.Arrays;

/** Meters, cars and a warden, as ../shared/DOC.md promises them; words in capitals are the document's. */
public final class CoinsWarden {
    public static final int NONE = -1;

    private static final int SLOTS = 12;
    private static final int ROOM = 6;
    private static final int IMAGES = 2;
    private static final int TAPE_ROOM = 400;
    private static final int MOST_COINS = 12;
    private static final int LONGEST = 12;
    /** A row by SINCE or by SLOTS that are paid: 0 .. 12. */
    private static final int WIDE = 13;
    private static final int MOST_FINE = 99;
    private static final int MOST_WARDENS = 3;
    private static final int MOST_SEED = 1_000_000;
    private static final int ALL_BITS = 4095;

    private static final long WHOLE = 1_000_000_000_000L;
    private static final long[] TENS = {
        1L, 10L, 100L, 1_000L, 10_000L, 100_000L, 1_000_000L, 10_000_000L, 100_000_000L,
        1_000_000_000L, 10_000_000_000L, 100_000_000_000L, 1_000_000_000_000L
    };

    private static final int BAD_NUMBER = -1;
    private static final int NO_SUCH = -2;
    private static final int CANNOT_BE = -3;
    private static final int NO_ROOM = -5;
    private static final int BAD_TEXT = -6;
    private static final int[] REFUSALS = {BAD_NUMBER, NO_SUCH, CANNOT_BE, NO_ROOM, BAD_TEXT};

    private static final int FROM = 0;
    private static final int TILL = 1;
    private static final int SEAT = 2;
    private static final int FLIGHTS = 3;
    private static final int FACTS = 4;
    private static final int[] FACT_HIGH = {11, 11, 1, 9};

    private static final int COIN = 0;
    private static final int PER = 1;
    private static final int FINE = 2;
    private static final int RAIN = 3;
    private static final int SINCE = 4;
    private static final int WARDENS = 5;
    private static final int WAGE = 6;
    private static final int MOOD = 7;
    private static final int TERMS = 8;
    private static final int[] TERM_LOW = {1, 1, 0, 0, 1, 0, 0, 0};
    private static final int[] TERM_HIGH = {9, 4, 99, 9, 12, 3, 99, 9};
    private static final int[] TERM_FIRST = {1, 1, 40, 0, 12, 1, 20, 0};

    private final State now = new State();
    private final State[] images = new State[IMAGES];
    private final boolean[] imageKept = new boolean[IMAGES];
    private final Tape tape = new Tape();
    private final Reading reading = new Reading(tape);
    private final Warden warden = new Warden();
    private final Stay stay = new Stay();
    private final Costs costs = new Costs(warden, stay);
    private final Plans plans = new Plans(warden, stay);
    private final Day latestDay = new Day(warden, costs, stay);
    private final Game chances = new Game();
    private final long[] takings = new long[MOST_FINE + 1];
    private final long[] mostTaken = new long[3];
    private final int[] refused = new int[REFUSALS.length];
    private int latestRefusal;
    private int latestFault = NONE;
    private int latestTar;

    public CoinsWarden() {
        for (int k = 0; k < IMAGES; k++) {
            images[k] = new State();
        }
    }

    public int car(int from, int till, int seat, int flights) {
        if (!canBeCar(from, till, seat, flights)) {
            return refuse(BAD_NUMBER);
        }
        if (now.cars >= ROOM) {
            return refuse(NO_ROOM);
        }
        return allow(now.addCar(from, till, seat, flights));
    }

    public int put(int car, int what, int value) {
        if (what < 0 || what >= FACTS || value < 0 || value > FACT_HIGH[what]) {
            return refuse(BAD_NUMBER);
        }
        if (!now.hasCar(car)) {
            return refuse(NO_SUCH);
        }
        if (what == FROM && value > now.factOf(car, TILL) || what == TILL && value < now.factOf(car, FROM)) {
            return refuse(CANNOT_BE);
        }
        int was = now.factOf(car, what);
        now.facts[car * FACTS + what] = value;
        return allow(was);
    }

    public int fact(int car, int what) {
        if (!now.hasCar(car) || what < 0 || what >= FACTS) {
            return NONE;
        }
        return now.factOf(car, what);
    }

    public int terms(int what, int value) {
        if (what < 0 || what >= TERMS || value < TERM_LOW[what] || value > TERM_HIGH[what]) {
            return refuse(BAD_NUMBER);
        }
        int was = now.asked[what];
        now.asked[what] = value;
        return allow(was);
    }

    public int feed(int a, int b, int c, int d, int e) {
        if (tape.length + 20 > TAPE_ROOM) {
            return NONE;
        }
        tape.addFour(a);
        tape.addFour(b);
        tape.addFour(c);
        tape.addFour(d);
        tape.addFour(e);
        return tape.length;
    }

    public int end(int n) {
        if (n < 0 || n > tape.length) {
            return NONE;
        }
        tape.length = n;
        return n;
    }

    public int row() {
        if (tape.length == 0) {
            return refuse(BAD_TEXT);
        }
        int came = 0;
        latestTar = 0;
        for (int at = 0; at < tape.length; at += FACTS) {
            if (carFromTape(at)) {
                came++;
            } else {
                latestTar++;
            }
        }
        tape.length = 0;
        return allow(came);
    }

    public int tar() {
        return latestTar;
    }

    public int law() {
        int number = readText(now.lawTexts, now.lawCount, true);
        if (number >= 0) {
            now.lawCount++;
        }
        return number;
    }

    public int habit() {
        int number = readText(now.habitTexts, now.habitCount, false);
        if (number >= 0) {
            now.habitCount++;
        }
        return number;
    }

    public int fault() {
        return latestFault;
    }

    public int force(int law) {
        if (law != NONE && !now.hasLaw(law)) {
            return refuse(NO_SUCH);
        }
        int was = now.inForce;
        now.inForce = law;
        return allow(was);
    }

    public int asks(int slot, int since, int car, int what) {
        if (!isSlot(slot) || since < 1 || since > LONGEST || what < 0 || what > 2) {
            return NONE;
        }
        warden.serve(now, now.inForce, now.asked[WARDENS]);
        if (what == 0) {
            return warden.comesOfTen(slot, since);
        }
        if (!now.hasCar(car) || slot < now.factOf(car, FROM) || slot > now.factOf(car, TILL)) {
            return NONE;
        }
        stay.take(now, car);
        if (what == 1) {
            int told = warden.finesTold(slot, since, stay);
            return told == NONE ? stay.fine : told;
        }
        return warden.sparesCar(slot, since, stay) ? 1 : 0;
    }

    public long likely(int slot, int what) {
        if (!isSlot(slot) || what < 0 || what > 1) {
            return NONE;
        }
        warden.serve(now, now.inForce, now.asked[WARDENS]);
        warden.freeSlots();
        if (what == 0) {
            warden.must[slot] = 1;
        } else {
            for (int n = 0; n <= slot; n++) {
                warden.must[n] = 0;
            }
        }
        return warden.spread(now.asked[SINCE]);
    }

    public long cost(int car, int n) {
        if (!now.hasCar(car) || n < 0 || n > MOST_COINS) {
            return NONE;
        }
        lookAt(car);
        costs.reckonFines();
        return costs.firstCost(n, stay.fine);
    }

    public int coins(int car, int what) {
        if (!now.hasCar(car) || what < 0 || what > 1) {
            return NONE;
        }
        lookAt(car);
        costs.reckonFines();
        return what == 0 ? costs.bestFirst(stay.fine) : costs.asGoodFirst(stay.fine);
    }

    public long least(int car, int what) {
        if (!now.hasCar(car) || what < 0 || what > 3) {
            return NONE;
        }
        lookAt(car);
        if (what == 1 || what == 2) {
            return plans.leastByState(what == 2);
        }
        costs.reckonFines();
        long ahead = costs.leastAhead();
        return what == 0 ? ahead : ahead - plans.leastByState(false);
    }

    public int down(int car, int i) {
        if (!now.hasCar(car) || i < 0 || i > now.factOf(car, TILL) - now.factOf(car, FROM)) {
            return NONE;
        }
        lookAt(car);
        costs.reckonFines();
        costs.leastAhead();
        return costs.coinsAhead(i);
    }

    public int run(int car, int slot, int since, int left) {
        if (!now.hasCar(car) || slot < now.factOf(car, FROM) || slot > now.factOf(car, TILL)) {
            return NONE;
        }
        if (since < 1 || since > LONGEST || left < 0 || left > SLOTS) {
            return NONE;
        }
        lookAt(car);
        return plans.coinsByState(slot, since, left);
    }

    public long habits(int car, int habit) {
        if (!now.hasCar(car) || !now.hasHabit(habit)) {
            return NONE;
        }
        lookAt(car);
        return costs.habitCost(now.habitTexts[habit]);
    }

    public int advice(int car) {
        if (!now.hasCar(car)) {
            return NONE;
        }
        lookAt(car);
        int best = NONE;
        long least = 0;
        for (int h = 0; h < now.habitCount; h++) {
            long sum = costs.habitCost(now.habitTexts[h]);
            if (best == NONE || sum < least) {
                best = h;
                least = sum;
            }
        }
        return best;
    }

    public int chalk(int rounds, int moves, int limit, int what) {
        if (rounds < 0 || rounds > ALL_BITS || moves < 0 || moves > ALL_BITS) {
            return NONE;
        }
        if (limit < 1 || limit > SLOTS || what < 0 || what > 2) {
            return NONE;
        }
        if (what == 0) {
            return chalkFines(rounds, moves, limit);
        }
        int fewest = chalkMoves(rounds, limit);
        return what == 1 ? Integer.bitCount(fewest) : fewest;
    }

    public int place(int loss, int caught) {
        if (loss < 0 || caught <= loss || caught > 99) {
            return refuse(BAD_NUMBER);
        }
        if (now.places >= ROOM) {
            return refuse(NO_ROOM);
        }
        now.losses[now.places] = loss;
        now.catches[now.places] = caught;
        now.places++;
        return allow(now.places - 1);
    }

    public int clear() {
        int were = now.places;
        now.places = 0;
        return were;
    }

    public long game(int toll, int what) {
        if (now.places == 0 || toll < 0 || toll > 99 || what < 0 || what > 2 + 2 * now.places) {
            return NONE;
        }
        chances.settle(now);
        if (what > 2) {
            chances.takeChance(now, (what - 3) / 2);
            return (what - 3) % 2 == 0 ? chances.upper : chances.lower;
        }
        boolean pays = toll * chances.lower <= chances.upper;
        if (what == 2) {
            return pays ? 1 : 0;
        }
        if (pays) {
            return what == 0 ? toll : 1;
        }
        return what == 0 ? chances.upper : chances.lower;
    }

    public long town(int what) {
        if (what < 0 || what > 3) {
            return NONE;
        }
        if (what == 0) {
            int wardens = now.asked[WARDENS];
            reckonTakings(wardens, now.asked[FINE], now.asked[FINE]);
            return takings[now.asked[FINE]];
        }
        reckonMost();
        return mostTaken[what - 1];
    }

    public int slip(int slot, int came) {
        if (!isSlot(slot) || came < 0 || came > 1) {
            return refuse(BAD_NUMBER);
        }
        for (int n = 0; n < now.slips; n++) {
            if (now.slipSlots[n] == slot) {
                return refuse(CANNOT_BE);
            }
        }
        if (now.slips >= SLOTS) {
            return refuse(NO_ROOM);
        }
        now.slipSlots[now.slips] = slot;
        now.slipCame[now.slips] = came;
        now.slips++;
        return allow(now.slips);
    }

    public int undo() {
        if (now.slips == 0) {
            return refuse(CANNOT_BE);
        }
        now.slips--;
        return allow(now.slipSlots[now.slips]);
    }

    public long fits(int law) {
        if (law != NONE && !now.hasLaw(law)) {
            return NONE;
        }
        return slipParts(law, NONE);
    }

    public int which() {
        int likeliest = NONE;
        long most = slipParts(NONE, NONE);
        for (int n = 0; n < now.lawCount; n++) {
            long parts = slipParts(n, NONE);
            if (parts > most) {
                likeliest = n;
                most = parts;
            }
        }
        return likeliest;
    }

    public long went(int slot) {
        if (!isSlot(slot)) {
            return NONE;
        }
        return slipParts(now.inForce, slot);
    }

    public int day(int seed, int habit) {
        if (seed < 0 || seed > MOST_SEED) {
            return refuse(BAD_NUMBER);
        }
        if (habit != NONE && !now.hasHabit(habit)) {
            return refuse(NO_SUCH);
        }
        lookFromSlotZero();
        return allow(latestDay.draw(now, habit == NONE ? null : now.habitTexts[habit], seed));
    }

    public int drawn(int car, int what) {
        if (!latestDay.drawnYet || what < 0 || what > 3) {
            return NONE;
        }
        if (what == 3) {
            return isSlot(car) ? latestDay.came[car] : NONE;
        }
        if (car < 0 || car >= latestDay.cars) {
            return NONE;
        }
        return what == 0 ? latestDay.spent[car] : what == 1 ? latestDay.fined[car] : latestDay.thrown[car];
    }

    public int image(int k) {
        if (k < 0 || k >= IMAGES) {
            return refuse(BAD_NUMBER);
        }
        images[k].become(now);
        imageKept[k] = true;
        return allow(0);
    }

    public int back(int k) {
        if (k < 0 || k >= IMAGES) {
            return refuse(BAD_NUMBER);
        }
        if (!imageKept[k]) {
            return refuse(NO_SUCH);
        }
        now.become(images[k]);
        return allow(0);
    }

    public int count(int what) {
        switch (what) {
            case 0: return now.cars;
            case 1: return now.lawCount;
            case 2: return now.habitCount;
            case 3: return now.places;
            case 4: return now.slips;
            case 5: return tape.length;
            case 11: return now.inForce;
            default: break;
        }
        if (what >= 6 && what <= 10) {
            return refused[what - 6];
        }
        return what >= 12 && what < 12 + TERMS ? now.asked[what - 12] : NONE;
    }

    public int status() {
        return latestRefusal;
    }

    private int refuse(int by) {
        for (int n = 0; n < REFUSALS.length; n++) {
            if (REFUSALS[n] == by) {
                refused[n]++;
            }
        }
        latestRefusal = by;
        return by;
    }

    private int allow(int answer) {
        latestRefusal = 0;
        return answer;
    }

    private static boolean isSlot(int slot) {
        return slot >= 0 && slot < SLOTS;
    }

    private static boolean canBeCar(int from, int till, int seat, int flights) {
        return from >= 0 && till >= from && till <= FACT_HIGH[TILL]
            && seat >= 0 && seat <= FACT_HIGH[SEAT]
            && flights >= 0 && flights <= FACT_HIGH[FLIGHTS];
    }

    private boolean carFromTape(int at) {
        if (at < 0 || at + FACTS > tape.length || now.cars >= ROOM) {
            return false;
        }
        int from = tape.bytes[at + FROM];
        int till = tape.bytes[at + TILL];
        int seat = tape.bytes[at + SEAT];
        int flights = tape.bytes[at + FLIGHTS];
        if (!canBeCar(from, till, seat, flights)) {
            return false;
        }
        now.addCar(from, till, seat, flights);
        return true;
    }

    /** The TAPE becomes the next of the TEXTS, of which so many are held; its number, or what it is REFUSED by. */
    private int readText(Text[] texts, int held, boolean asLaw) {
        if (held >= ROOM) {
            tape.length = 0;
            return refuse(NO_ROOM);
        }
        Text text = reading.read(asLaw);
        latestFault = reading.wrongAt;
        tape.length = 0;
        if (text == null) {
            return refuse(BAD_TEXT);
        }
        texts[held] = text;
        return allow(held);
    }

    /** The chances of all SLOTS by the LAW in FORCE. */
    private void lookFromSlotZero() {
        warden.serve(now, now.inForce, now.asked[WARDENS]);
        warden.freeSlots();
        warden.spread(now.asked[SINCE]);
    }

    private void lookAt(int car) {
        lookFromSlotZero();
        stay.take(now, car);
    }

    private long slipParts(int law, int cameIn) {
        warden.serve(now, law, now.asked[WARDENS]);
        warden.freeSlots();
        for (int n = 0; n < now.slips; n++) {
            warden.must[now.slipSlots[n]] = now.slipCame[n];
        }
        if (isSlot(cameIn)) {
            if (warden.must[cameIn] == 0) {
                return 0;
            }
            warden.must[cameIn] = 1;
        }
        return warden.spread(now.asked[SINCE]);
    }

    /** What THE TOWN gets by so many WARDENS and each FINE from the lowest to the highest one asked. */
    private void reckonTakings(int wardens, int lowest, int highest) {
        warden.serve(now, now.inForce, wardens);
        warden.freeSlots();
        warden.spread(now.asked[SINCE]);
        Arrays.fill(takings, -WHOLE * now.asked[WAGE] * wardens);
        for (int c = 0; c < now.cars; c++) {
            stay.take(now, c);
            costs.reckonFines();
            for (int fine = lowest; fine <= highest; fine++) {
                takings[fine] += costs.firstCost(costs.bestFirst(fine), fine);
            }
        }
    }

    private void reckonMost() {
        boolean any = false;
        for (int wardens = 0; wardens <= MOST_WARDENS; wardens++) {
            reckonTakings(wardens, 0, MOST_FINE);
            for (int fine = 0; fine <= MOST_FINE; fine++) {
                if (!any || takings[fine] > mostTaken[0]) {
                    any = true;
                    mostTaken[0] = takings[fine];
                    mostTaken[1] = wardens;
                    mostTaken[2] = fine;
                }
            }
        }
    }

    private static boolean hasBit(int bits, int n) {
        return ((bits >> n) & 1) == 1;
    }

    private static int chalkFines(int rounds, int moves, int limit) {
        int fines = 0;
        int mark = NONE;
        for (int slot = 0; slot < SLOTS; slot++) {
            if (hasBit(moves, slot)) {
                mark = NONE;
            }
            if (!hasBit(rounds, slot)) {
                continue;
            }
            if (mark == NONE) {
                mark = slot;
            } else if (slot - mark >= limit) {
                fines++;
                mark = slot;
            }
        }
        return fines;
    }

    /**
     * The best moves behind a mark in each ROUND, from the last one on: the next move is just behind the
     * ROUND ahead of the one that will mark anew, as no lower bit leads to that mark.
     */
    private static int chalkMoves(int rounds, int limit) {
        int[] bestBehind = new int[SLOTS];
        int first = 0;
        for (int mark = SLOTS - 1; mark >= 0; mark--) {
            if (hasBit(rounds, mark)) {
                bestBehind[mark] = movesBehind(rounds, limit, mark, bestBehind);
                first = bestBehind[mark];
            }
        }
        return first;
    }

    private static int movesBehind(int rounds, int limit, int mark, int[] bestBehind) {
        int best = NONE;
        int ahead = mark;
        for (int next = mark + 1; next < SLOTS; next++) {
            if (!hasBit(rounds, next)) {
                continue;
            }
            int moves = bestBehind[next] | (1 << (ahead + 1));
            if (best == NONE || fewerOrLower(moves, best)) {
                best = moves;
            }
            if (next - mark >= limit) {
                return best;
            }
            ahead = next;
        }
        return 0;
    }

    private static boolean fewerOrLower(int moves, int others) {
        int more = Integer.bitCount(moves) - Integer.bitCount(others);
        return more < 0 || more == 0 && moves < others;
    }

    /** All that an IMAGE keeps. */
    private static final class State {
        int cars;
        final int[] facts = new int[ROOM * FACTS];
        final int[] asked = new int[TERMS];
        int lawCount;
        final Text[] lawTexts = new Text[ROOM];
        int inForce = NONE;
        int habitCount;
        final Text[] habitTexts = new Text[ROOM];
        int places;
        final int[] losses = new int[ROOM];
        final int[] catches = new int[ROOM];
        int slips;
        final int[] slipSlots = new int[SLOTS];
        final int[] slipCame = new int[SLOTS];

        State() {
            System.arraycopy(TERM_FIRST, 0, asked, 0, TERMS);
        }

        boolean hasCar(int number) {
            return number >= 0 && number < cars;
        }

        boolean hasLaw(int number) {
            return number >= 0 && number < lawCount;
        }

        boolean hasHabit(int number) {
            return number >= 0 && number < habitCount;
        }

        int factOf(int number, int what) {
            return facts[number * FACTS + what];
        }

        int addCar(int from, int till, int seat, int flights) {
            facts[cars * FACTS + FROM] = from;
            facts[cars * FACTS + TILL] = till;
            facts[cars * FACTS + SEAT] = seat;
            facts[cars * FACTS + FLIGHTS] = flights;
            cars++;
            return cars - 1;
        }

        /** TEXTS never change once they are read, so that IMAGES may share them. */
        void become(State other) {
            cars = other.cars;
            lawCount = other.lawCount;
            inForce = other.inForce;
            habitCount = other.habitCount;
            places = other.places;
            slips = other.slips;
            System.arraycopy(other.facts, 0, facts, 0, facts.length);
            System.arraycopy(other.asked, 0, asked, 0, asked.length);
            System.arraycopy(other.losses, 0, losses, 0, losses.length);
            System.arraycopy(other.catches, 0, catches, 0, catches.length);
            System.arraycopy(other.slipSlots, 0, slipSlots, 0, slipSlots.length);
            System.arraycopy(other.slipCame, 0, slipCame, 0, slipCame.length);
            for (int n = 0; n < ROOM; n++) {
                lawTexts[n] = other.lawTexts[n];
                habitTexts[n] = other.habitTexts[n];
            }
        }
    }

    /** The bytes that were fed, and the TOKEN that is being looked at. */
    private static final class Tape {
        static final int END = 0;
        static final int WORD = 1;
        static final int NUMBER = 2;
        static final int SIGN = 3;
        /** Above all NUMBERS that can be; kept there, so that long rows of digits don't wrap around. */
        private static final int TOO_HIGH = 100_000;

        final int[] bytes = new int[TAPE_ROOM];
        int length;
        int start;
        private int stop;
        int kind;
        int number;

        void addFour(int four) {
            for (int shift = 24; shift >= 0; shift -= 8) {
                if (length < TAPE_ROOM) {
                    bytes[length] = (four >> shift) & 255;
                    length++;
                }
            }
        }

        void begin() {
            stop = 0;
            advance();
        }

        void advance() {
            start = stop;
            while (start < length && bytes[start] == ' ') {
                start++;
            }
            stop = start;
            number = 0;
            if (start >= length) {
                kind = END;
                return;
            }
            kind = kindOf(bytes[start]);
            stop++;
            while (kind != SIGN && stop < length && kindOf(bytes[stop]) == kind) {
                stop++;
            }
            for (int at = start; kind == NUMBER && at < stop; at++) {
                number = Math.min(TOO_HIGH, number * 10 + bytes[at] - '0');
            }
        }

        private static int kindOf(int sign) {
            if (sign >= 'a' && sign <= 'z') {
                return WORD;
            }
            return sign >= '0' && sign <= '9' ? NUMBER : SIGN;
        }

        boolean isSign(int sign) {
            return kind == SIGN && start < length && bytes[start] == sign;
        }

        boolean isWord(String word) {
            return wordIn(word) == 0;
        }

        /** Which of the words in a row with blanks between the TOKEN is. */
        int wordIn(String words) {
            if (kind != WORD) {
                return NONE;
            }
            int which = 0;
            int from = 0;
            for (int at = 0; at <= words.length(); at++) {
                if (at == words.length() || words.charAt(at) == ' ') {
                    if (isPartOf(words, from, at)) {
                        return which;
                    }
                    which++;
                    from = at + 1;
                }
            }
            return NONE;
        }

        private boolean isPartOf(String words, int from, int upTo) {
            if (upTo - from != stop - start) {
                return false;
            }
            for (int n = 0; n < upTo - from; n++) {
                if (words.charAt(from + n) != bytes[start + n]) {
                    return false;
                }
            }
            return true;
        }
    }

    /** A LAW or a HABIT as it was read: each CLAUSE's SUM and behind it its TEST, as steps for a stack. */
    private static final class Text {
        static final int COMES = 0;
        static final int FINES = 1;
        static final int SPARES = 2;
        static final int THROW = 0;

        static final int PUSH = 0;
        static final int PUSH_WORD = 1;
        static final int NOT = 2;
        static final int AND = 3;
        static final int OR = 4;

        final int clauses;
        final int[] verbs;
        final int[] sumFrom;
        final int[] testFrom;
        final int[] upTo;
        final int[] steps;
        final int[] with;

        Text(Reading from) {
            clauses = from.clauses;
            verbs = Arrays.copyOf(from.verbs, clauses);
            sumFrom = Arrays.copyOf(from.sumFrom, clauses);
            testFrom = Arrays.copyOf(from.testFrom, clauses);
            upTo = Arrays.copyOf(from.upTo, clauses);
            steps = Arrays.copyOf(from.steps, from.size);
            with = Arrays.copyOf(from.with, from.size);
        }
    }

    /** Reads the TAPE as a TEXT; a method that reads a part answers false at the first TOKEN that can't go on. */
    private static final class Reading {
        private static final String LAW_VERBS = "comes fines spares";
        private static final String LAW_WORDS = "slot since rain wardens car stay mood";
        private static final String HABIT_VERBS = "throw";
        private static final String HABIT_WORDS = "slot left stay more since coin per";
        private static final int MOST_CLAUSES = 12;
        private static final int MOST_PARTS = 50;
        private static final int MOST_BRACKETS = 8;
        private static final int MOST_NUMBER = 1000;

        private final Tape tape;
        private boolean ofLaw;
        private int parts;
        private int brackets;
        int wrongAt;
        int clauses;
        final int[] verbs = new int[MOST_CLAUSES];
        final int[] sumFrom = new int[MOST_CLAUSES];
        final int[] testFrom = new int[MOST_CLAUSES];
        final int[] upTo = new int[MOST_CLAUSES];
        int size;
        /** A TOKEN makes one step at most, so that a TAPE's length is room enough. */
        final int[] steps = new int[TAPE_ROOM];
        final int[] with = new int[TAPE_ROOM];

        Reading(Tape tape) {
            this.tape = tape;
        }

        Text read(boolean asLaw) {
            ofLaw = asLaw;
            parts = 0;
            brackets = 0;
            wrongAt = NONE;
            clauses = 0;
            size = 0;
            tape.begin();
            for (int n = 0; n < MOST_CLAUSES; n++) {
                if (!readClause(n)) {
                    return null;
                }
                clauses = n + 1;
                if (tape.kind == Tape.END) {
                    return new Text(this);
                }
                if (!tape.isSign(';')) {
                    break;
                }
                tape.advance();
            }
            wrong();
            return null;
        }

        private boolean wrong() {
            wrongAt = tape.start;
            return false;
        }

        private boolean readClause(int n) {
            int verb = tape.wordIn(ofLaw ? LAW_VERBS : HABIT_VERBS);
            if (verb == NONE) {
                return wrong();
            }
            tape.advance();
            verbs[n] = verb;
            sumFrom[n] = size;
            if (verb != Text.SPARES && !readSum()) {
                return false;
            }
            testFrom[n] = size;
            if (tape.isWord("if")) {
                tape.advance();
                if (!readTest()) {
                    return false;
                }
            }
            upTo[n] = size;
            return true;
        }

        private boolean readTest() {
            if (!readBoth()) {
                return false;
            }
            for (int n = 0; n < TAPE_ROOM && tape.isWord("or"); n++) {
                tape.advance();
                int jump = add(Text.OR, 0);
                if (!readBoth()) {
                    return false;
                }
                with[jump] = size;
            }
            return true;
        }

        private boolean readBoth() {
            if (!readPlain()) {
                return false;
            }
            for (int n = 0; n < TAPE_ROOM && tape.isWord("and"); n++) {
                tape.advance();
                int jump = add(Text.AND, 0);
                if (!readPlain()) {
                    return false;
                }
                with[jump] = size;
            }
            return true;
        }

        /** "not" is counted, not gone down into: a TAPE has room for a hundred in a row. */
        private boolean readPlain() {
            boolean turned = false;
            for (int n = 0; n < TAPE_ROOM && tape.isWord("not"); n++) {
                turned = !turned;
                tape.advance();
            }
            boolean good = tape.isSign('(') ? readBracketed('(', ')') : readComparison();
            if (good && turned) {
                add(Text.NOT, 0);
            }
            return good;
        }

        private boolean readBracketed(int opening, int closing) {
            if (brackets >= MOST_BRACKETS) {
                return wrong();
            }
            brackets++;
            tape.advance();
            boolean good = opening == '(' ? readTest() : readSum();
            if (!good) {
                return false;
            }
            if (!tape.isSign(closing)) {
                return wrong();
            }
            brackets--;
            tape.advance();
            return true;
        }

        private boolean readComparison() {
            if (!readSum()) {
                return false;
            }
            int sign = signAmong('<', '>', '=');
            if (sign == NONE) {
                return wrong();
            }
            tape.advance();
            if (!readSum()) {
                return false;
            }
            add(sign, 0);
            return true;
        }

        private boolean readSum() {
            if (!readTerm()) {
                return false;
            }
            int sign = signAmong('+', '-', '-');
            for (int n = 0; n < TAPE_ROOM && sign != NONE; n++) {
                tape.advance();
                if (!readTerm()) {
                    return false;
                }
                add(sign, 0);
                sign = signAmong('+', '-', '-');
            }
            return true;
        }

        private boolean readTerm() {
            if (!readPart()) {
                return false;
            }
            int sign = signAmong('*', '/', '%');
            for (int n = 0; n < TAPE_ROOM && sign != NONE; n++) {
                tape.advance();
                if (!readPart()) {
                    return false;
                }
                add(sign, 0);
                sign = signAmong('*', '/', '%');
            }
            return true;
        }

        private boolean readPart() {
            if (tape.isSign('[')) {
                return readBracketed('[', ']');
            }
            int word = tape.wordIn(ofLaw ? LAW_WORDS : HABIT_WORDS);
            boolean number = tape.kind == Tape.NUMBER && tape.number <= MOST_NUMBER;
            if (word == NONE && !number || parts >= MOST_PARTS) {
                return wrong();
            }
            parts++;
            if (number) {
                add(Text.PUSH, tape.number);
            } else {
                add(Text.PUSH_WORD, word);
            }
            tape.advance();
            return true;
        }

        private int signAmong(int one, int two, int three) {
            if (tape.isSign(one)) {
                return one;
            }
            if (tape.isSign(two)) {
                return two;
            }
            return tape.isSign(three) ? three : NONE;
        }

        private int add(int step, int number) {
            int at = Math.min(size, TAPE_ROOM - 1);
            steps[at] = step;
            with[at] = number;
            size = at + 1;
            return at;
        }
    }

    /** Reckons CLAUSES with the words as they are put. */
    private static final class Reckoner {
        private static final int MOST_WORDS = 7;
        /** Each bracket holds three numbers back at most: ahead of "<", of "+" and of "*". */
        private static final int DEEPEST = 64;
        private static final long FARTHEST = 1_000_000_000L;

        final int[] words = new int[MOST_WORDS];
        private final long[] stack = new long[DEEPEST];
        private int depth;
        private boolean broken;
        private long told;

        /** Whether a CLAUSE with that verb HOLDS; the last one's SUM is told then. */
        boolean lastHolds(Text text, int verb) {
            if (text == null) {
                return false;
            }
            for (int n = text.clauses - 1; n >= 0; n--) {
                if (text.verbs[n] != verb) {
                    continue;
                }
                long so = reckon(text, text.testFrom[n], text.upTo[n]);
                if (broken || so == 0) {
                    continue;
                }
                told = reckon(text, text.sumFrom[n], text.testFrom[n]);
                if (!broken) {
                    return true;
                }
            }
            return false;
        }

        int toldWithin(int lowest, int highest) {
            return (int) Math.max(lowest, Math.min(highest, told));
        }

        /** What the steps leave on the stack; 1, as of a TEST that is so, if there are none. */
        private long reckon(Text text, int from, int upTo) {
            depth = 0;
            broken = false;
            for (int at = from; at < upTo && !broken; at++) {
                int step = text.steps[at];
                int with = text.with[at];
                if (step == Text.PUSH || step == Text.PUSH_WORD) {
                    push(step, with);
                } else if (depth == 0) {
                    broken = true;
                } else if (step == Text.NOT) {
                    stack[depth - 1] = 1 - stack[depth - 1];
                } else if (step != Text.AND && step != Text.OR) {
                    join(step);
                } else if (stack[depth - 1] == (step == Text.OR ? 1 : 0)) {
                    at = with - 1 > at ? with - 1 : at;
                } else {
                    depth--;
                }
            }
            return depth > 0 ? stack[depth - 1] : 1;
        }

        private void push(int step, int with) {
            boolean word = step == Text.PUSH_WORD;
            if (depth >= DEEPEST || word && (with < 0 || with >= MOST_WORDS)) {
                broken = true;
                return;
            }
            stack[depth] = word ? words[with] : with;
            depth++;
        }

        private void join(int sign) {
            if (depth < 2) {
                broken = true;
                return;
            }
            depth--;
            long a = stack[depth - 1];
            long b = stack[depth];
            if (b == 0 && (sign == '/' || sign == '%')) {
                broken = true;
                return;
            }
            long c = 0;
            switch (sign) {
                case '+': c = a + b; break;
                case '-': c = a - b; break;
                case '*': c = a * b; break;
                case '/': c = a / b; break;
                case '%': c = a % b; break;
                case '<': c = a < b ? 1 : 0; break;
                case '>': c = a > b ? 1 : 0; break;
                default: c = a == b ? 1 : 0; break;
            }
            broken = c > FARTHEST || c < -FARTHEST;
            stack[depth - 1] = c;
        }
    }

    /** How likely he comes, what he fines, whom he spares, by a LAW. */
    private static final class Warden {
        private static final int WORD_SLOT = 0;
        private static final int WORD_SINCE = 1;
        private static final int WORD_RAIN = 2;
        private static final int WORD_WARDENS = 3;
        private static final int WORD_CAR = 4;
        private static final int WORD_STAY = 5;
        private static final int WORD_MOOD = 6;
        private static final int COMES_WITHOUT = 5;

        private final Reckoner reckoner = new Reckoner();
        private Text law;
        /** By SLOTS: that he came (1), that he did not (0), or any (NONE). */
        final int[] must = new int[SLOTS];
        private final int[] comes = new int[SLOTS * WIDE];
        private final long[] parts = new long[(SLOTS + 1) * WIDE];

        void serve(State state, int lawNumber, int wardens) {
            law = state.hasLaw(lawNumber) ? state.lawTexts[lawNumber] : null;
            reckoner.words[WORD_RAIN] = state.asked[RAIN];
            reckoner.words[WORD_WARDENS] = wardens;
            reckoner.words[WORD_MOOD] = state.asked[MOOD];
        }

        void freeSlots() {
            Arrays.fill(must, NONE);
        }

        int comesOfTen(int slot, int since) {
            putWords(slot, since, NONE, NONE);
            if (!reckoner.lastHolds(law, Text.COMES)) {
                return COMES_WITHOUT;
            }
            return reckoner.toldWithin(0, 10);
        }

        /** NONE without a CLAUSE that HOLDS: FINE is asked then. */
        int finesTold(int slot, int since, Stay stay) {
            putWords(slot, since, stay.number, slot - stay.from);
            if (!reckoner.lastHolds(law, Text.FINES)) {
                return NONE;
            }
            return reckoner.toldWithin(0, MOST_FINE);
        }

        boolean sparesCar(int slot, int since, Stay stay) {
            putWords(slot, since, stay.number, slot - stay.from);
            return reckoner.lastHolds(law, Text.SPARES);
        }

        /** What a CAR without a SLOT paid pays if he comes. */
        int finesOf(int slot, int since, Stay stay) {
            putWords(slot, since, stay.number, slot - stay.from);
            if (reckoner.lastHolds(law, Text.SPARES)) {
                return 0;
            }
            if (!reckoner.lastHolds(law, Text.FINES)) {
                return stay.fine;
            }
            return reckoner.toldWithin(0, MOST_FINE);
        }

        private void putWords(int slot, int since, int number, int ahead) {
            reckoner.words[WORD_SLOT] = slot;
            reckoner.words[WORD_SINCE] = since;
            reckoner.words[WORD_CAR] = number;
            reckoner.words[WORD_STAY] = ahead;
        }

        /** The parts of each since in each SLOT by what must be so; how many are left behind the last SLOT. */
        long spread(int sinceAtFirst) {
            Arrays.fill(parts, 0L);
            if (sinceAtFirst >= 1 && sinceAtFirst <= LONGEST) {
                parts[sinceAtFirst] = WHOLE;
            }
            for (int slot = 0; slot < SLOTS; slot++) {
                int next = (slot + 1) * WIDE;
                for (int since = 1; since <= LONGEST; since++) {
                    long here = parts[slot * WIDE + since];
                    if (here == 0) {
                        continue;
                    }
                    comes[slot * WIDE + since] = comesOfTen(slot, since);
                    long came = cameParts(slot, since);
                    if (must[slot] != 0) {
                        parts[next + 1] += came;
                    }
                    if (must[slot] != 1) {
                        parts[next + Math.min(LONGEST, since + 1)] += here - came;
                    }
                }
            }
            long left = 0;
            for (int since = 1; since <= LONGEST; since++) {
                left += parts[SLOTS * WIDE + since];
            }
            return left;
        }

        long partsAt(int slot, int since) {
            return parts[slot * WIDE + since];
        }

        /** Of the parts of a since in a SLOT those in which he comes; 0 where there are none. */
        long cameParts(int slot, int since) {
            return parts[slot * WIDE + since] / 10 * comes[slot * WIDE + since];
        }

        /** As comesOfTen(), of a since that spread() met in that SLOT. */
        int comesMet(int slot, int since) {
            return comes[slot * WIDE + since];
        }
    }

    /** A CAR's stay and what its coins cost and buy. */
    private static final class Stay {
        int number;
        int from;
        int till;
        boolean seat;
        int flights;
        int coin;
        int per;
        int fine;

        void take(State state, int car) {
            number = car;
            from = state.factOf(car, FROM);
            till = state.factOf(car, TILL);
            seat = state.factOf(car, SEAT) == 1;
            flights = state.factOf(car, FLIGHTS);
            coin = state.asked[COIN];
            per = state.asked[PER];
            fine = state.asked[FINE];
        }

        int price(int coins, int slot) {
            return coins > 0 && slot > from ? coins * coin + flights : coins * coin;
        }

        int paidWith(int left, int coins) {
            return Math.min(SLOTS, left + coins * per);
        }

        /** Any coin more would buy only SLOTS in which the CAR is gone, so that none such is ever best. */
        boolean paidToTheEnd(int slot, int paid) {
            return paid > till - slot;
        }
    }

    /** What is told ahead costs on the mean: AT FIRST, DOWN, a HABIT. */
    private static final class Costs {
        private static final int WORD_SLOT = 0;
        private static final int WORD_LEFT = 1;
        private static final int WORD_STAY = 2;
        private static final int WORD_MORE = 3;
        private static final int WORD_SINCE = 4;
        private static final int WORD_COIN = 5;
        private static final int WORD_PER = 6;

        private final Warden warden;
        private final Stay stay;
        private final Reckoner reckoner = new Reckoner();
        /** From each SLOT on: what is fined on the mean by told numbers, and the parts in which FINE is asked. */
        private final long[] toldFrom = new long[SLOTS + 1];
        private final long[] askedFrom = new long[SLOTS + 1];
        private final long[] leastFrom = new long[(SLOTS + 1) * WIDE];
        private final int[] bestCoins = new int[SLOTS * WIDE];
        private final long[] here = new long[WIDE * WIDE];
        private final long[] next = new long[WIDE * WIDE];

        Costs(Warden warden, Stay stay) {
            this.warden = warden;
            this.stay = stay;
        }

        void reckonFines() {
            Arrays.fill(toldFrom, 0L);
            Arrays.fill(askedFrom, 0L);
            for (int slot = stay.till; slot >= stay.from; slot--) {
                toldFrom[slot] = toldFrom[slot + 1];
                askedFrom[slot] = askedFrom[slot + 1];
                for (int since = 1; since <= LONGEST; since++) {
                    long came = warden.cameParts(slot, since);
                    if (came == 0 || warden.sparesCar(slot, since, stay)) {
                        continue;
                    }
                    int told = warden.finesTold(slot, since, stay);
                    if (told == NONE) {
                        askedFrom[slot] += came;
                    } else {
                        toldFrom[slot] += came * told;
                    }
                }
            }
        }

        long firstCost(int coins, int fine) {
            int unpaid = Math.min(SLOTS, stay.from + stay.paidWith(0, coins));
            return WHOLE * stay.price(coins, stay.from) + toldFrom[unpaid] + askedFrom[unpaid] * fine;
        }

        int bestFirst(int fine) {
            int best = 0;
            long least = firstCost(0, fine);
            for (int coins = 1; coins <= MOST_COINS; coins++) {
                long sum = firstCost(coins, fine);
                if (sum < least) {
                    least = sum;
                    best = coins;
                }
            }
            return best;
        }

        int asGoodFirst(int fine) {
            long least = firstCost(bestFirst(fine), fine);
            int alike = 0;
            for (int coins = 0; coins <= MOST_COINS; coins++) {
                if (firstCost(coins, fine) == least) {
                    alike++;
                }
            }
            return alike;
        }

        long leastAhead() {
            Arrays.fill(leastFrom, 0L);
            for (int slot = stay.till; slot >= stay.from; slot--) {
                for (int left = 0; left < WIDE; left++) {
                    chooseAhead(slot, left);
                }
            }
            return leastFrom[stay.from * WIDE];
        }

        /** The lowest of the best numbers in each SLOT: so the row of them is the first. */
        private void chooseAhead(int slot, int left) {
            long fines = toldFrom[slot] - toldFrom[slot + 1] + (askedFrom[slot] - askedFrom[slot + 1]) * stay.fine;
            int at = slot * WIDE + left;
            for (int coins = 0; coins <= MOST_COINS; coins++) {
                int paid = stay.paidWith(left, coins);
                long sum = WHOLE * stay.price(coins, slot) + (paid == 0 ? fines : 0)
                    + leastFrom[(slot + 1) * WIDE + Math.max(0, paid - 1)];
                if (coins == 0 || sum < leastFrom[at]) {
                    leastFrom[at] = sum;
                    bestCoins[at] = coins;
                }
                if (stay.paidToTheEnd(slot, paid)) {
                    break;
                }
            }
        }

        int coinsAhead(int i) {
            int left = 0;
            for (int slot = stay.from; slot < stay.from + i && slot < stay.till; slot++) {
                int paid = stay.paidWith(left, bestCoins[slot * WIDE + left]);
                left = Math.max(0, paid - 1);
            }
            return bestCoins[Math.min(stay.till, stay.from + i) * WIDE + left];
        }

        int coinsBy(Text habit, int slot, int since, int left) {
            reckoner.words[WORD_SLOT] = slot;
            reckoner.words[WORD_LEFT] = left;
            reckoner.words[WORD_STAY] = slot - stay.from;
            reckoner.words[WORD_MORE] = stay.till - slot + 1;
            reckoner.words[WORD_SINCE] = stay.seat ? since : NONE;
            reckoner.words[WORD_COIN] = stay.coin;
            reckoner.words[WORD_PER] = stay.per;
            return reckoner.lastHolds(habit, Text.THROW) ? reckoner.toldWithin(0, MOST_COINS) : 0;
        }

        long habitCost(Text habit) {
            Arrays.fill(here, 0L);
            for (int since = 1; since <= LONGEST; since++) {
                here[since * WIDE] = warden.partsAt(stay.from, since);
            }
            long sum = 0;
            for (int slot = stay.from; slot <= stay.till; slot++) {
                Arrays.fill(next, 0L);
                for (int at = WIDE; at < WIDE * WIDE; at++) {
                    if (here[at] != 0) {
                        sum += walk(habit, slot, at);
                    }
                }
                System.arraycopy(next, 0, here, 0, here.length);
            }
            return sum;
        }

        /** What one SLOT costs those parts that stand at a since with so many SLOTS paid; they go on to the next. */
        private long walk(Text habit, int slot, int at) {
            int since = at / WIDE;
            int left = at % WIDE;
            long parts = here[at];
            int coins = coinsBy(habit, slot, since, left);
            int paid = stay.paidWith(left, coins);
            long came = parts / 10 * warden.comesMet(slot, since);
            long sum = parts * stay.price(coins, slot);
            if (paid == 0 && came > 0) {
                sum += came * warden.finesOf(slot, since, stay);
            }
            int leftThen = Math.max(0, paid - 1);
            next[WIDE + leftThen] += came;
            next[Math.min(LONGEST, since + 1) * WIDE + leftThen] += parts - came;
            return sum;
        }
    }

    /** RUN and WARNED, from the last SLOT back; in SLOT s all is counted in parts of which 10^(12 - s) are one. */
    private static final class Plans {
        private final Warden warden;
        private final Stay stay;
        private final int[] comes = new int[WIDE];
        private final int[] fines = new int[WIDE];
        private final long[] here = new long[WIDE * WIDE];
        private final long[] behind = new long[WIDE * WIDE];
        private boolean warned;
        private int bestCoins;

        Plans(Warden warden, Stay stay) {
            this.warden = warden;
            this.stay = stay;
        }

        long leastByState(boolean withWaiter) {
            warned = withWaiter;
            reckonBehind(stay.from);
            long sum = 0;
            for (int since = 1; since <= LONGEST; since++) {
                long ways = warden.partsAt(stay.from, since) / TENS[SLOTS - stay.from];
                if (ways > 0) {
                    sum += ways * choose(stay.from, since, 0);
                }
            }
            return sum;
        }

        int coinsByState(int slot, int since, int left) {
            warned = false;
            reckonBehind(slot);
            choose(slot, since, left);
            return bestCoins;
        }

        private void reckonBehind(int first) {
            Arrays.fill(behind, 0L);
            for (int slot = stay.till; slot > first; slot--) {
                learn(slot);
                for (int at = WIDE; at < WIDE * WIDE; at++) {
                    here[at] = choose(slot, at / WIDE, at % WIDE);
                }
                System.arraycopy(here, 0, behind, 0, behind.length);
            }
            learn(first);
        }

        private void learn(int slot) {
            for (int since = 1; since <= LONGEST; since++) {
                comes[since] = warden.comesOfTen(slot, since);
                fines[since] = comes[since] == 0 ? 0 : warden.finesOf(slot, since, stay);
            }
        }

        private long choose(int slot, int since, int left) {
            long one = TENS[SLOTS - slot];
            long least = 0;
            for (int coins = 0; coins <= MOST_COINS; coins++) {
                int paid = stay.paidWith(left, coins);
                long sum = one * stay.price(coins, slot) + meanBehind(slot, since, paid);
                if (coins == 0 || sum < least) {
                    least = sum;
                    bestCoins = coins;
                }
                if (stay.paidToTheEnd(slot, paid)) {
                    break;
                }
            }
            return least;
        }

        private long meanBehind(int slot, int since, int paid) {
            long one = TENS[SLOTS - 1 - slot];
            int leftThen = Math.max(0, paid - 1);
            long came = behind[WIDE + leftThen];
            long away = behind[Math.min(LONGEST, since + 1) * WIDE + leftThen];
            if (paid == 0) {
                came += one * fines[since];
                if (warned) {
                    came = Math.min(came, one * (stay.coin + stay.flights) + behind[WIDE + stay.per - 1]);
                }
            }
            return came * comes[since] + away * (10 - comes[since]);
        }
    }

    /** The latest DAY on paper. */
    private static final class Day {
        private static final int TIMES = 1103;
        private static final int AND = 12345;
        private static final int MODULO = 1_000_003;

        private final Warden warden;
        private final Costs costs;
        private final Stay stay;
        boolean drawnYet;
        int cars;
        final int[] came = new int[SLOTS];
        final int[] spent = new int[ROOM];
        final int[] fined = new int[ROOM];
        final int[] thrown = new int[ROOM];
        private final int[] atFirst = new int[ROOM];
        private final int[] left = new int[ROOM];

        Day(Warden warden, Costs costs, Stay stay) {
            this.warden = warden;
            this.costs = costs;
            this.stay = stay;
        }

        /** Without a HABIT coins are thrown AT FIRST, by the best number. */
        int draw(State state, Text habit, int seed) {
            begin(state);
            for (int c = 0; habit == null && c < cars; c++) {
                stay.take(state, c);
                costs.reckonFines();
                atFirst[c] = costs.bestFirst(stay.fine);
            }
            long s = seed;
            int since = state.asked[SINCE];
            int often = 0;
            for (int slot = 0; slot < SLOTS; slot++) {
                s = (s * TIMES + AND) % MODULO;
                came[slot] = s % 10 < warden.comesOfTen(slot, since) ? 1 : 0;
                for (int c = 0; c < cars; c++) {
                    stay.take(state, c);
                    if (slot >= stay.from && slot <= stay.till) {
                        stand(habit, slot, since);
                    }
                }
                often += came[slot];
                since = came[slot] == 1 ? 1 : Math.min(LONGEST, since + 1);
            }
            return often;
        }

        private void begin(State state) {
            drawnYet = true;
            cars = state.cars;
            Arrays.fill(spent, 0);
            Arrays.fill(fined, 0);
            Arrays.fill(thrown, 0);
            Arrays.fill(left, 0);
        }

        private void stand(Text habit, int slot, int since) {
            int c = stay.number;
            int coins = slot == stay.from ? atFirst[c] : 0;
            if (habit != null) {
                coins = costs.coinsBy(habit, slot, since, left[c]);
            }
            thrown[c] += coins;
            spent[c] += stay.price(coins, slot);
            int paid = stay.paidWith(left[c], coins);
            left[c] = Math.max(0, paid - 1);
            if (came[slot] == 1 && paid == 0 && !warden.sparesCar(slot, since, stay)) {
                fined[c]++;
                spent[c] += warden.finesOf(slot, since, stay);
            }
        }
    }

    /** The GAME without TOLL: its VALUE, and his CHANCE of each PLACE. */
    private static final class Game {
        long upper;
        long lower;
        private final boolean[] stoodAt = new boolean[ROOM];

        /** The VALUE by all PLACES is no less than the true one, so that a PLACE that loses as much anyway falls out. */
        void settle(State state) {
            for (int p = 0; p < ROOM; p++) {
                stoodAt[p] = true;
            }
            boolean fell = true;
            for (int n = 0; n < ROOM && fell; n++) {
                reckonValue(state);
                fell = false;
                for (int p = 0; p < state.places; p++) {
                    if (stoodAt[p] && state.losses[p] * lower >= upper) {
                        stoodAt[p] = false;
                        fell = true;
                    }
                }
            }
            reduce();
        }

        private void reckonValue(State state) {
            long product = 1;
            for (int p = 0; p < state.places; p++) {
                product *= stoodAt[p] ? state.catches[p] - state.losses[p] : 1;
            }
            upper = product;
            lower = 0;
            for (int p = 0; p < state.places; p++) {
                int more = state.catches[p] - state.losses[p];
                if (stoodAt[p] && more > 0) {
                    upper += product / more * state.losses[p];
                    lower += product / more;
                }
            }
        }

        /** Behind settle(): the fraction becomes his CHANCE of a PLACE. */
        void takeChance(State state, int p) {
            if (p < 0 || p >= state.places || !stoodAt[p]) {
                upper = 0;
                lower = 1;
                return;
            }
            upper -= state.losses[p] * lower;
            lower *= state.catches[p] - state.losses[p];
            reduce();
        }

        private void reduce() {
            long a = upper;
            long b = lower;
            for (int n = 0; n < 200 && b != 0; n++) {
                long rest = a % b;
                a = b;
                b = rest;
            }
            if (a > 0) {
                upper /= a;
                lower /= a;
            }
        }
    }
}
