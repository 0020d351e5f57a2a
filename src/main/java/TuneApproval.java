/**
 * Tunes had on approval by the houses of a lane, as told in a text.
 * Every row that a call needs is made with the object, so that no call makes anything.
 */
public final class TuneApproval {
    public static final int NONE = -1;

    private static final int NO_SUCH = -2;
    private static final int NO_GLADNESS = -1000000000;
    private static final int GLADNESS_MOST = 9999;
    private static final int CART = -1;

    private static final int TAPE_MOST = 1600;
    private static final int FEED_BYTES = 20;
    private static final int TUNES_MOST = 5;
    private static final int HOUSES_MOST = 4;
    private static final int NOTES_MOST = 8;
    private static final int NOTES_LEAST = 3;
    private static final int LIKED = 3;
    private static final int NOTE_KINDS = 7;
    private static final int PLACE_MOST = 99;
    private static final int WAY_BEYOND_ALL = (PLACE_MOST + 1) * HOUSES_MOST;
    private static final int UNITS_MOST = 30;
    private static final int NESTING_MOST = 7;

    private static final int WEEKS_MOST = 999;
    private static final int WEEKS_AHEAD_MOST = 60;
    private static final int WORN_MOST = 99;
    private static final int PURSE_MOST = 999;
    private static final int FILL_MOST = 50;
    private static final int PAID_MARK = 10;
    private static final int ACTS_MOST = 40;
    private static final int BOXES = 3;
    private static final int DECIDINGS_MOST = 4;
    private static final int KNOWN_MOST = 30;
    private static final int KNOWN_GLADNESS_MOST = 999;
    private static final int LATER_MOST = 1000;
    private static final int TIME_MOST = 100000;

    private final byte[] tape = new byte[TAPE_MOST];
    private int tapeLength;
    private final Reader reader = new Reader();
    private Lane told = new Lane();
    private final Standing now = new Standing();
    private final Standing ahead = new Standing();
    private final Acts acts = new Acts();
    private final int[] boxes = new int[BOXES * Standing.SIZE];
    private final boolean[] boxKept = new boolean[BOXES];
    private final Knowledge knowledge = new Knowledge();
    private int time;
    private final int[] lying = new int[HOUSES_MOST];
    private int lyingCount;
    private final int[] trial = new int[HOUSES_MOST];
    private final int[] offers = new int[HOUSES_MOST];
    private final int[] rates = new int[HOUSES_MOST * TUNES_MOST];

    public TuneApproval() {
        now.begin(told);
        acts.begin(now);
    }

    // ---- the tape and the lane that is told on it

    public int feed(int a, int b, int c, int d, int e) {
        if (tapeLength + FEED_BYTES > TAPE_MOST) {
            return NONE;
        }
        putBytes(a);
        putBytes(b);
        putBytes(c);
        putBytes(d);
        putBytes(e);
        return tapeLength;
    }

    private void putBytes(int number) {
        for (int shift = 24; shift >= 0; shift -= 8) {
            if (tapeLength < TAPE_MOST) {
                tape[tapeLength] = (byte) (number >>> shift);
                tapeLength++;
            }
        }
    }

    public int end(int n) {
        if (n < 0 || n > tapeLength) {
            return NONE;
        }
        tapeLength = n;
        return n;
    }

    public int lane() {
        if (!reader.read(tape, tapeLength)) {
            return NONE;
        }
        told = reader.handOver(told);
        tapeLength = 0;
        now.begin(told);
        acts.begin(now);
        knowledge.begin();
        lyingCount = 0;
        for (int box = 0; box < BOXES; box++) {
            boxKept[box] = false;
        }
        return told.houses;
    }

    public int fault(int what) {
        switch (what) {
            case 0:
                return reader.fault;
            case 1:
                return reader.faultPlace;
            default:
                return NONE;
        }
    }

    // ---- what is

    private boolean isTune(int tune) {
        return tune >= 0 && tune < told.tunes;
    }

    private boolean isHouse(int house) {
        return house >= 0 && house < told.houses;
    }

    private static boolean isNote(int note) {
        return note >= 0 && note < NOTE_KINDS;
    }

    private static boolean isPlace(int place) {
        return place >= 0 && place <= PLACE_MOST;
    }

    private static boolean isWeeksAhead(int n) {
        return n >= 0 && n <= WEEKS_AHEAD_MOST;
    }

    public int tune(int tune, int what) {
        if (!isTune(tune)) {
            return NO_SUCH;
        }
        switch (what) {
            case 0:
                return told.prices[tune];
            case 1:
                return told.left(tune, now.worn[tune]);
            case 2:
                return now.worn[tune];
            case 3:
                return now.where[tune];
            case 4:
                return now.paid[tune];
            case 5:
                return now.weeks[tune];
            default:
                return NO_SUCH;
        }
    }

    public int note(int tune, int i) {
        if (!isTune(tune) || i < 0 || i >= told.left(tune, now.worn[tune])) {
            return NONE;
        }
        return told.noteLeft(tune, now.worn[tune], i);
    }

    public int house(int house, int what) {
        if (!isHouse(house)) {
            return NO_SUCH;
        }
        switch (what) {
            case 0:
                return told.places[house];
            case 1:
                return now.purses[house];
            case 2:
                return now.onApprovalIn(house);
            case 3:
                return paidBy(house);
            default:
                return NO_SUCH;
        }
    }

    private int paidBy(int house) {
        int bits = 0;
        for (int tune = 0; tune < told.tunes; tune++) {
            if (now.isPaid(tune) && now.where[tune] == house) {
                bits |= 1 << tune;
            }
        }
        return bits;
    }

    public int glad(int house, int tune) {
        return isHouse(house) && isTune(tune) ? gladNow(house, tune) : NO_GLADNESS;
    }

    private int gladNow(int house, int tune) {
        boolean here = now.isOnApproval(tune) && now.where[tune] == house;
        int weeks = here ? now.weeks[tune] : 0;
        return told.gladness(house, tune, now.worn[tune], weeks, now.purses[house]);
    }

    // ---- acts

    public int week() {
        if (now.week >= WEEKS_MOST) {
            return NONE;
        }
        int paid = passWeek(now, told.hums);
        acts.keep(now);
        return paid;
    }

    private int passWeek(Standing standing, int hums) {
        int paid = 0;
        for (int house = 0; house < told.houses; house++) {
            int tune = standing.onApprovalIn(house);
            if (tune != NONE && passWeekIn(standing, house, tune, hums)) {
                paid++;
            }
        }
        standing.week++;
        return paid;
    }

    /** Whether the house pays for it. */
    private boolean passWeekIn(Standing standing, int house, int tune, int hums) {
        standing.weeks[tune]++;
        standing.seed = (standing.seed * 137 + 71) % 1000;
        boolean hummed = standing.seed % 100 < hums;
        if (hummed || standing.weeks[tune] < told.approval) {
            return false;
        }
        int price = told.prices[tune];
        int purse = standing.purses[house];
        int gladness = told.gladness(house, tune, standing.worn[tune], standing.weeks[tune], purse);
        if (gladness > 0 && purse >= price) {
            standing.purses[house] = purse - price;
            standing.pay(tune);
            return true;
        }
        standing.backOnCart(tune);
        standing.worn[tune] = Math.min(WORN_MOST, standing.worn[tune] + 1);
        return false;
    }

    public int bring(int tune, int house) {
        if (!isTune(tune) || !isHouse(house) || !now.isOnCart(tune) || now.onApprovalIn(house) != NONE) {
            return NO_GLADNESS;
        }
        now.where[tune] = house;
        acts.keep(now);
        return gladNow(house, tune);
    }

    public int fetch(int tune) {
        if (!isTune(tune) || !now.isOnApproval(tune)) {
            return NONE;
        }
        int house = now.where[tune];
        now.backOnCart(tune);
        acts.keep(now);
        return house;
    }

    public int give(int tune) {
        if (!isTune(tune) || !now.isPaid(tune)) {
            return NONE;
        }
        int house = now.where[tune];
        now.backOnCart(tune);
        acts.keep(now);
        return house;
    }

    public int fill(int house, int more) {
        if (!isHouse(house) || more < 1 || more > FILL_MOST || now.purses[house] >= PURSE_MOST) {
            return NONE;
        }
        now.purses[house] = Math.min(PURSE_MOST, now.purses[house] + more);
        acts.keep(now);
        return now.purses[house];
    }

    public boolean undo() {
        return acts.stepBack(now);
    }

    public boolean redo() {
        return acts.stepOn(now);
    }

    // ---- what is asked by what is now

    private void lookAhead(int weeks, int hums) {
        ahead.copyOf(now);
        for (int n = 0; n < weeks && n < WEEKS_AHEAD_MOST; n++) {
            passWeek(ahead, hums);
        }
    }

    public int will(int tune, int n, int what) {
        if (!isTune(tune) || !isWeeksAhead(n) || what < 0 || what > 1) {
            return NO_SUCH;
        }
        lookAhead(n, what == 1 ? told.hums : 0);
        return ahead.isPaid(tune) ? ahead.where[tune] + PAID_MARK : ahead.where[tune];
    }

    public int purse(int house, int n) {
        if (!isHouse(house) || !isWeeksAhead(n)) {
            return NONE;
        }
        lookAhead(n, 0);
        return ahead.purses[house];
    }

    private boolean wouldPay(int house, int tune, int purse) {
        return purse >= told.prices[tune]
                && told.gladness(house, tune, now.worn[tune], told.approval, purse) > 0;
    }

    private int takenWith(int house, int purse) {
        int bits = 0;
        for (int tune = 0; tune < told.tunes; tune++) {
            if (wouldPay(house, tune, purse)) {
                bits |= 1 << tune;
            }
        }
        return bits;
    }

    private int takenNow(int house) {
        return takenWith(house, now.purses[house]);
    }

    private int onCart() {
        int bits = 0;
        for (int tune = 0; tune < told.tunes; tune++) {
            if (now.isOnCart(tune)) {
                bits |= 1 << tune;
            }
        }
        return bits;
    }

    private static boolean holds(int bits, int i) {
        return (bits >> i & 1) == 1;
    }

    public int takes(int house) {
        return isHouse(house) ? takenNow(house) : NONE;
    }

    public int law(int house, int n) {
        if (!isHouse(house) || n < 0 || n > PURSE_MOST) {
            return NONE;
        }
        return Integer.bitCount(takenWith(house, n));
    }

    public int spinsters() {
        int bits = (1 << told.tunes) - 1;
        for (int house = 0; house < told.houses; house++) {
            bits &= ~takenNow(house);
        }
        return bits;
    }

    public int favourite() {
        int best = NONE;
        int most = -1;
        for (int tune = 0; tune < told.tunes; tune++) {
            int takers = 0;
            for (int house = 0; house < told.houses; house++) {
                if (wouldPay(house, tune, now.purses[house])) {
                    takers++;
                }
            }
            if (takers > most) {
                most = takers;
                best = tune;
            }
        }
        return best;
    }

    // ---- round, walk, barter: every row of choices is tried, house by house the least first,
    // ---- so that the first of the best is the first that is found

    /** The row of choices with this number; the first house's choice is its highest digit. */
    private void spread(int number, int choices) {
        int rest = number;
        for (int house = told.houses - 1; house >= 0; house--) {
            trial[house] = choices > 0 ? rest % choices : 0;
            rest = choices > 0 ? rest / choices : 0;
        }
    }

    private int rowsOf(int choices) {
        int rows = 1;
        for (int house = 0; house < told.houses; house++) {
            rows *= choices;
        }
        return rows;
    }

    private void layTrial() {
        lyingCount = told.houses;
        for (int house = 0; house < lyingCount; house++) {
            lying[house] = trial[house];
        }
    }

    public int round(int what) {
        if (what < 0 || what > 1) {
            return NONE;
        }
        int cart = onCart();
        for (int house = 0; house < told.houses; house++) {
            offers[house] = now.onApprovalIn(house) == NONE ? cart & takenNow(house) : 0;
        }
        int bestCount = -1;
        int bestPrice = -1;
        int rows = rowsOf(told.tunes + 1);
        for (int number = 0; number < rows; number++) {
            spread(number, told.tunes + 1);
            int count = roundCount();
            int price = count < 0 ? 0 : roundPrice();
            if (count > bestCount || count == bestCount && price > bestPrice) {
                bestCount = count;
                bestPrice = price;
                layTrial();
            }
        }
        return what == 0 ? bestCount : bestPrice;
    }

    /** How many tunes the tried round sells (NONE if it can't be); the choice behind the last tune is none. */
    private int roundCount() {
        int used = 0;
        for (int house = 0; house < told.houses; house++) {
            int tune = trial[house];
            if (tune >= told.tunes) {
                trial[house] = NONE;
            } else if (holds(used, tune) || !holds(offers[house], tune)) {
                return NONE;
            } else {
                used |= 1 << tune;
            }
        }
        return Integer.bitCount(used);
    }

    private int roundPrice() {
        int price = 0;
        for (int house = 0; house < told.houses; house++) {
            if (isTune(trial[house])) {
                price += told.prices[trial[house]];
            }
        }
        return price;
    }

    public int walk(int place) {
        if (!isPlace(place)) {
            return NONE;
        }
        int best = WAY_BEYOND_ALL;
        int rows = rowsOf(told.houses);
        for (int number = 0; number < rows; number++) {
            spread(number, told.houses);
            int way = trialIsOrder() ? wayFrom(place) : WAY_BEYOND_ALL;
            if (way < best) {
                best = way;
                layTrial();
            }
        }
        return best;
    }

    private boolean trialIsOrder() {
        int used = 0;
        for (int step = 0; step < told.houses; step++) {
            used |= 1 << trial[step];
        }
        return Integer.bitCount(used) == told.houses;
    }

    private int wayFrom(int place) {
        int way = 0;
        int at = place;
        for (int step = 0; step < told.houses; step++) {
            int next = told.places[trial[step]];
            way += Math.abs(next - at);
            at = next;
        }
        return way;
    }

    private void rateAll() {
        for (int house = 0; house < told.houses; house++) {
            for (int tune = 0; tune < told.tunes; tune++) {
                rates[house * TUNES_MOST + tune] = gladNow(house, tune);
            }
        }
    }

    private int rate(int house, int tune) {
        return rates[house * TUNES_MOST + tune];
    }

    public int barter() {
        rateAll();
        for (int house = 0; house < told.houses; house++) {
            offers[house] = now.onApprovalIn(house);
        }
        int best = NO_GLADNESS;
        int choices = Math.max(1, told.tunes);
        int rows = rowsOf(choices);
        for (int number = 0; number < rows; number++) {
            spread(number, choices);
            int together = trialIsBarter() ? barterGladness() : NO_GLADNESS;
            if (together > best) {
                best = together;
                layTrial();
            }
        }
        return best;
    }

    /** Whether each house has one of the tunes on approval, none is had twice, and none is less glad. */
    private boolean trialIsBarter() {
        int used = 0;
        for (int house = 0; house < told.houses; house++) {
            int tune = trial[house];
            if (offers[house] == NONE) {
                if (tune != 0) {
                    return false;
                }
                trial[house] = NONE;
            } else if (holds(used, tune) || !now.isOnApproval(tune)
                    || rate(house, tune) < rate(house, offers[house])) {
                return false;
            } else {
                used |= 1 << tune;
            }
        }
        return true;
    }

    private int barterGladness() {
        int together = 0;
        for (int house = 0; house < told.houses; house++) {
            if (isTune(trial[house])) {
                together += rate(house, trial[house]);
            }
        }
        return together;
    }

    public int swap(int what) {
        if (what < 0 || what > 1) {
            return NONE;
        }
        for (int house = 0; house < told.houses; house++) {
            for (int other = house + 1; other < told.houses; other++) {
                if (bothGladder(house, other)) {
                    return what == 0 ? house : other;
                }
            }
        }
        return NONE;
    }

    private boolean bothGladder(int house, int other) {
        int own = now.onApprovalIn(house);
        int others = now.onApprovalIn(other);
        return own != NONE && others != NONE
                && gladNow(house, others) > gladNow(house, own)
                && gladNow(other, own) > gladNow(other, others);
    }

    public int rivals(int house, int other) {
        lyingCount = 0;
        int cart = onCart();
        if (!isHouse(house) || !isHouse(other) || house == other || cart == 0) {
            return NONE;
        }
        rateAll();
        int rests = 0;
        for (int first = 0; first < told.tunes; first++) {
            for (int second = 0; second < told.tunes; second++) {
                if (isBestAgainst(house, first, second, cart) && isBestAgainst(other, second, first, cart)) {
                    if (rests == 0) {
                        layTwo(first, second);
                    }
                    rests++;
                }
            }
        }
        return rests;
    }

    private void layTwo(int first, int second) {
        lying[0] = first;
        lying[1] = second;
        lyingCount = 2;
    }

    /** Whether a house that asks for a tune on the cart would be no gladder by another, the other one asking so. */
    private boolean isBestAgainst(int house, int tune, int others, int cart) {
        if (!holds(cart, tune)) {
            return false;
        }
        int gained = tune == others ? 0 : rate(house, tune);
        for (int another = 0; another < told.tunes; another++) {
            int gain = another == others ? 0 : rate(house, another);
            if (holds(cart, another) && gain > gained) {
                return false;
            }
        }
        return true;
    }

    public int sale(int house, int what) {
        if (!isHouse(house) || what < 0 || what > 1) {
            return NONE;
        }
        int wanted = onCart() & takenNow(house);
        int best = 0;
        int bestPrice = 0;
        for (int set = 1; set < 1 << told.tunes; set++) {
            int price = priceOf(set);
            boolean can = (set & ~wanted) == 0 && price <= now.purses[house];
            boolean fewer = Integer.bitCount(set) < Integer.bitCount(best);
            if (can && (price > bestPrice || price == bestPrice && fewer)) {
                best = set;
                bestPrice = price;
            }
        }
        return what == 0 ? bestPrice : best;
    }

    private int priceOf(int set) {
        int price = 0;
        for (int tune = 0; tune < told.tunes; tune++) {
            if (holds(set, tune)) {
                price += told.prices[tune];
            }
        }
        return price;
    }

    private int paidFor() {
        int bits = 0;
        for (int house = 0; house < told.houses; house++) {
            bits |= paidBy(house);
        }
        return bits;
    }

    public int earned() {
        return priceOf(paidFor());
    }

    public int find(int a, int b, int c) {
        return isNote(a) && isNote(b) && isNote(c) ? tunesWith(a, b, c, false) : NONE;
    }

    public int hum(int a, int b, int c) {
        return isNote(a) && isNote(b) && isNote(c) ? tunesWith(a, b, c, true) : NONE;
    }

    private int tunesWith(int a, int b, int c, boolean atEnd) {
        int bits = 0;
        for (int tune = 0; tune < told.tunes; tune++) {
            int worn = now.worn[tune];
            int first = atEnd ? told.left(tune, worn) - LIKED : 0;
            if (told.hasTurn(tune, worn, first, a, b, c)) {
                bits |= 1 << tune;
            }
        }
        return bits;
    }

    public int pair(int tune, int what) {
        if (!isTune(tune) || told.houses == 0 || what < 0 || what > 1) {
            return NO_GLADNESS;
        }
        int best = 0;
        int most = gladNow(0, tune);
        for (int house = 1; house < told.houses; house++) {
            int gladness = gladNow(house, tune);
            if (gladness > most) {
                most = gladness;
                best = house;
            }
        }
        return what == 0 ? best : most;
    }

    public int frayed(int tune) {
        return isTune(tune) ? told.left(tune, now.worn[tune]) - NOTES_LEAST : NONE;
    }

    public int idle() {
        int bits = 0;
        for (int house = 0; house < told.houses; house++) {
            if (now.onApprovalIn(house) == NONE) {
                bits |= 1 << house;
            }
        }
        return bits;
    }

    public int fashion() {
        int best = NONE;
        int most = 0;
        for (int note = 0; note < NOTE_KINDS; note++) {
            int likers = 0;
            for (int house = 0; house < told.houses; house++) {
                if (told.doesLike(house, note)) {
                    likers++;
                }
            }
            if (likers > most) {
                most = likers;
                best = note;
            }
        }
        return best;
    }

    public int due(int tune) {
        if (!isTune(tune) || !now.isOnApproval(tune)) {
            return NONE;
        }
        return Math.max(1, told.approval - now.weeks[tune]);
    }

    public int along(int place, int other) {
        if (!isPlace(place) || !isPlace(other)) {
            return NONE;
        }
        int bits = 0;
        for (int house = 0; house < told.houses; house++) {
            int at = told.places[house];
            if (at >= Math.min(place, other) && at <= Math.max(place, other)) {
                bits |= 1 << house;
            }
        }
        return bits;
    }

    public int alike(int tune, int other) {
        if (!isTune(tune) || !isTune(other)) {
            return NONE;
        }
        int left = told.left(tune, now.worn[tune]);
        int otherLeft = told.left(other, now.worn[other]);
        int same = 0;
        for (int back = 1; back <= left && back <= otherLeft; back++) {
            int note = told.noteLeft(tune, now.worn[tune], left - back);
            if (note != told.noteLeft(other, now.worn[other], otherLeft - back)) {
                break;
            }
            same = back;
        }
        return same;
    }

    public int odds(int n, int part) {
        if (n < 0 || n > DECIDINGS_MOST || part < 0 || part > 1) {
            return NONE;
        }
        int upper = 1;
        int lower = 1;
        for (int i = 0; i < n; i++) {
            upper *= 100 - told.hums;
            lower *= 100;
        }
        int shared = sharedDivisor(upper, lower);
        return (part == 0 ? upper : lower) / shared;
    }

    /** The greatest common divisor; 1 at least. */
    private static int sharedDivisor(int a, int b) {
        int greater = a;
        int lesser = b;
        // Euclid's steps on ints are fewer than 64.
        for (int step = 0; step < 64 && lesser != 0; step++) {
            int rest = greater % lesser;
            greater = lesser;
            lesser = rest;
        }
        return Math.max(1, greater);
    }

    public int lies(int i) {
        return i >= 0 && i < lyingCount ? lying[i] : NO_SUCH;
    }

    // ---- what is known of the last house

    public int known(int tune, int glad, boolean is) {
        if (!isTune(tune) || told.houses == 0) {
            return NONE;
        }
        if (glad < -KNOWN_GLADNESS_MOST || glad > KNOWN_GLADNESS_MOST) {
            return NONE;
        }
        return knowledge.add(tune, glad, is, time);
    }

    public boolean untell(int known) {
        return knowledge.drop(known, time);
    }

    public int later(int by) {
        if (by < 0 || by > LATER_MOST || time + by > TIME_MOST) {
            return NONE;
        }
        time += by;
        return time;
    }

    public int rows(int k) {
        return knowledge.sift(told, k);
    }

    public int sure(int i, int k) {
        if (i < 0 || i >= LIKED || knowledge.sift(told, k) == 0) {
            return NONE;
        }
        return knowledge.commonNote(i);
    }

    public int ask(int what, int k) {
        if (what < 0 || what > 1 || told.tunes == 0 || knowledge.sift(told, k) == 0) {
            return NONE;
        }
        int best = NONE;
        int fewest = Knowledge.ROWS + 1;
        for (int tune = 0; tune < told.tunes; tune++) {
            int most = knowledge.mostAlike(tune);
            if (most < fewest) {
                fewest = most;
                best = tune;
            }
        }
        return what == 0 ? best : fewest;
    }

    // ---- images, and what there is of all

    public int image(int box) {
        if (box < 0 || box >= BOXES) {
            return NONE;
        }
        now.writeTo(boxes, box);
        boxKept[box] = true;
        return now.week;
    }

    public int restore(int box) {
        if (box < 0 || box >= BOXES || !boxKept[box]) {
            return NONE;
        }
        now.readFrom(boxes, box);
        acts.begin(now);
        return now.week;
    }

    public int about(int what) {
        switch (what) {
            case 0:
                return told.houses;
            case 1:
                return told.tunes;
            case 2:
                return told.approval;
            case 3:
                return onCart();
            case 4:
                return paidFor();
            case 5:
                return now.week;
            case 6:
                return now.seed;
            case 7:
                return acts.done;
            case 8:
                return acts.undone;
            case 9:
                return knowledge.count;
            case 10:
                return time;
            case 11:
                return tapeLength;
            case 12:
                return told.units;
            case 13:
                return lyingCount;
            case 14:
                return told.hums;
            default:
                return NONE;
        }
    }

    // ---- the classes inside

    /** The kinds of what a text is made of; a sign's kind is its byte. */
    private static final class Kind {
        static final int BAD = 0;
        static final int END = 1;
        static final int NUMBER = 2;
        static final int NAME = 3;
        static final int FIRST_WORD = 100;
        static final int APPROVAL = 100;
        static final int TUNE = 101;
        static final int HOUSE = 102;
        static final int GLAD = 103;
        static final int HUMS = 104;
        static final int DRAW = 105;
        static final int NOTES = 106;
        static final int AT = 107;
        static final int LIKES = 108;
        static final int OR = 109;
        static final int AND = 110;
        static final int NOT = 111;
        // The facts that a formula can be made of; Lane.facts has them in this order.
        static final int SAME = 112;
        static final int TURN = 113;
        static final int LONG = 114;
        static final int WORN = 115;
        static final int WEEKS = 116;
        static final int PRICE = 117;
        static final int PURSE = 118;

        static final int WORDS = 19;
        static final int WORD_MOST = 8;
        // Eight signs for each word, by its number.
        static final String SPELLED = "approvaltune    house   glad    hums    draw    notes   at      likes   or      and     not     same    turn    long    worn    weeks   price   purse   ";

        private Kind() {
        }

        static boolean isFact(int kind) {
            return kind >= SAME && kind <= PURSE;
        }

        /** How tightly an operator binds (0: least); NONE if it is none. */
        static int levelOf(int kind) {
            switch (kind) {
                case OR:
                    return 0;
                case AND:
                    return 1;
                case '<':
                case '>':
                case '=':
                    return 2;
                case '+':
                case '-':
                    return 3;
                case '*':
                case '/':
                case '%':
                    return 4;
                default:
                    return NONE;
            }
        }
    }

    /** A formula as steps on a stack: numbers as they are, facts and operators above all numbers. */
    private static final class Formula {
        private static final int FACT = 10000;
        private static final int OPERATOR = 20000;
        // 30 units, 29 operators between them, 7 times not before each at the most.
        private static final int STEPS_MOST = 300;
        private final int[] steps = new int[STEPS_MOST];
        private int length;
        private final int[] stack = new int[UNITS_MOST];

        void empty() {
            length = 0;
        }

        void addNumber(int number) {
            addStep(number);
        }

        void addFact(int kind) {
            addStep(FACT + kind - Kind.SAME);
        }

        void addOperator(int kind) {
            addStep(OPERATOR + kind);
        }

        private void addStep(int step) {
            if (length < STEPS_MOST) {
                steps[length] = step;
                length++;
            }
        }

        int valueBy(int[] facts) {
            int top = 0;
            for (int i = 0; i < length; i++) {
                int step = steps[i];
                if (step < OPERATOR) {
                    int fact = step - FACT;
                    boolean isFact = fact >= 0 && fact < facts.length;
                    if (top < UNITS_MOST) {
                        stack[top] = isFact ? facts[fact] : step;
                        top++;
                    }
                } else if (step == OPERATOR + Kind.NOT) {
                    if (top > 0) {
                        stack[top - 1] = stack[top - 1] == 0 ? 1 : 0;
                    }
                } else if (top > 1) {
                    top--;
                    stack[top - 1] = joined(step - OPERATOR, stack[top - 1], stack[top]);
                }
            }
            return top > 0 ? stack[0] : 0;
        }

        private static int joined(int operator, int a, int b) {
            switch (operator) {
                case Kind.OR:
                    return a != 0 || b != 0 ? 1 : 0;
                case Kind.AND:
                    return a != 0 && b != 0 ? 1 : 0;
                case '<':
                    return a < b ? 1 : 0;
                case '>':
                    return a > b ? 1 : 0;
                case '=':
                    return a == b ? 1 : 0;
                case '+':
                    return a + b;
                case '-':
                    return a - b;
                case '*':
                    return a * b;
                case '/':
                    return b == 0 ? 0 : a / b;
                case '%':
                    return b == 0 ? 0 : a % b;
                default:
                    return 0;
            }
        }
    }

    /** A lane as it was told; what happens along it does not change it. */
    private static final class Lane {
        int approval = 1;
        int hums;
        int draw;
        int tunes;
        final int[] prices = new int[TUNES_MOST];
        final int[] noteCounts = new int[TUNES_MOST];
        final int[] notes = new int[TUNES_MOST * NOTES_MOST];
        int houses;
        final int[] places = new int[HOUSES_MOST];
        final int[] purses = new int[HOUSES_MOST];
        final int[] likes = new int[HOUSES_MOST * LIKED];
        int units;
        final Formula formula = new Formula();
        private final int[] facts = new int[Kind.PURSE - Kind.SAME + 1];

        Lane() {
            tellUsualGladness();
        }

        void clear() {
            approval = 1;
            hums = 0;
            draw = 0;
            tunes = 0;
            houses = 0;
            units = 0;
            tellUsualGladness();
        }

        /** same + turn * 3 - worn */
        private void tellUsualGladness() {
            formula.empty();
            formula.addFact(Kind.SAME);
            formula.addFact(Kind.TURN);
            formula.addNumber(3);
            formula.addOperator('*');
            formula.addOperator('+');
            formula.addFact(Kind.WORN);
            formula.addOperator('-');
        }

        int left(int tune, int worn) {
            int left = noteCounts[tune] - worn;
            return left < NOTES_LEAST ? NOTES_LEAST : left;
        }

        /** The i-th of the notes that are left: those are the last ones. */
        int noteLeft(int tune, int worn, int i) {
            int gone = noteCounts[tune] - left(tune, worn);
            return notes[tune * NOTES_MOST + gone + i];
        }

        boolean doesLike(int house, int note) {
            int first = house * LIKED;
            return likes[first] == note || likes[first + 1] == note || likes[first + 2] == note;
        }

        /** Whether the three follow one another in what is left, at the place from or behind it. */
        boolean hasTurn(int tune, int worn, int from, int a, int b, int c) {
            int left = left(tune, worn);
            for (int i = from; i + 2 < left; i++) {
                if (noteLeft(tune, worn, i) == a && noteLeft(tune, worn, i + 1) == b
                        && noteLeft(tune, worn, i + 2) == c) {
                    return true;
                }
            }
            return false;
        }

        int gladness(int house, int tune, int worn, int weeks, int purse) {
            int left = left(tune, worn);
            int same = 0;
            for (int i = 0; i < left; i++) {
                if (doesLike(house, noteLeft(tune, worn, i))) {
                    same++;
                }
            }
            int first = house * LIKED;
            boolean turn = hasTurn(tune, worn, 0, likes[first], likes[first + 1], likes[first + 2]);
            return gladnessBy(same, turn, tune, worn, weeks, purse);
        }

        int gladnessBy(int same, boolean turn, int tune, int worn, int weeks, int purse) {
            facts[0] = same;
            facts[Kind.TURN - Kind.SAME] = turn ? 1 : 0;
            facts[Kind.LONG - Kind.SAME] = left(tune, worn);
            facts[Kind.WORN - Kind.SAME] = worn;
            facts[Kind.WEEKS - Kind.SAME] = weeks;
            facts[Kind.PRICE - Kind.SAME] = prices[tune];
            facts[Kind.PURSE - Kind.SAME] = purse;
            return Math.max(-GLADNESS_MOST, Math.min(GLADNESS_MOST, formula.valueBy(facts)));
        }
    }

    /** Parts a text into tokens: of each its kind, where it begins, and its number or letters. */
    private static final class Scanner {
        private static final int DIGITS_MOST = 4;
        final int[] kinds = new int[TAPE_MOST + 1];
        final int[] places = new int[TAPE_MOST + 1];
        final long[] values = new long[TAPE_MOST + 1];
        private int count;
        private int at;

        /** The last token is the end, or the first that is none. */
        void scan(byte[] text, int length) {
            count = 0;
            at = 0;
            int kind = Kind.NAME;
            for (int n = 0; n <= TAPE_MOST && kind != Kind.END && kind != Kind.BAD; n++) {
                kind = scanToken(text, Math.min(length, text.length));
                kinds[n] = kind;
                count = n + 1;
            }
        }

        private int scanToken(byte[] text, int length) {
            for (int n = 0; n < TAPE_MOST && at < length && (text[at] == 32 || text[at] == 10); n++) {
                at++;
            }
            places[count] = at;
            if (at >= length) {
                return Kind.END;
            }
            int sign = text[at];
            if (isLetter(sign)) {
                return scanWord(text, length);
            }
            if (isDigit(sign)) {
                return scanNumber(text, length);
            }
            at++;
            return isSign(sign) ? sign : Kind.BAD;
        }

        private static boolean isLetter(int sign) {
            return sign >= 'a' && sign <= 'z';
        }

        private static boolean isDigit(int sign) {
            return sign >= '0' && sign <= '9';
        }

        private static boolean isSign(int sign) {
            return sign == ';' || sign == '(' || sign == ')' || Kind.levelOf(sign) >= 0;
        }

        private int scanWord(byte[] text, int length) {
            int first = at;
            long letters = 0;
            for (int n = 0; n < TAPE_MOST && at < length && isLetter(text[at]); n++) {
                letters = letters * 27 + text[at] - 'a' + 1;
                at++;
            }
            if (at - first > Kind.WORD_MOST) {
                return Kind.BAD;
            }
            values[count] = letters;
            for (int word = 0; word < Kind.WORDS; word++) {
                if (isSpelled(word, text, first)) {
                    return Kind.FIRST_WORD + word;
                }
            }
            return Kind.NAME;
        }

        private boolean isSpelled(int word, byte[] text, int first) {
            for (int i = 0; i < Kind.WORD_MOST; i++) {
                int sign = first + i < at ? text[first + i] : ' ';
                if (sign != Kind.SPELLED.charAt(word * Kind.WORD_MOST + i)) {
                    return false;
                }
            }
            return true;
        }

        private int scanNumber(byte[] text, int length) {
            int first = at;
            int number = 0;
            for (int n = 0; n < TAPE_MOST && at < length && isDigit(text[at]); n++) {
                number = number * 10 + text[at] - '0';
                at++;
            }
            values[count] = number;
            boolean bad = at - first > DIGITS_MOST || at < length && isLetter(text[at]);
            return bad ? Kind.BAD : Kind.NUMBER;
        }
    }

    /** Reads a text into a lane, up to its first fault. */
    private static final class Reader {
        private static final int NO_TOKEN = 1;
        private static final int CANT_STAND = 2;
        private static final int TOLD_ALREADY = 3;
        private static final int CANT_BE = 4;
        private static final int ONE = 2;
        private static final int UNIT = 5;

        int fault;
        int faultPlace = NONE;
        private final Scanner scanner = new Scanner();
        private Lane into = new Lane();
        // The token that is looked at, and its kind.
        private int token;
        private int kind;
        private final long[] tuneNames = new long[TUNES_MOST];
        private final long[] houseNames = new long[HOUSES_MOST];
        private boolean approvalTold;
        private boolean gladTold;
        private boolean humsTold;
        private boolean drawTold;

        boolean read(byte[] tape, int tapeLength) {
            scanner.scan(tape, tapeLength);
            into.clear();
            fault = 0;
            faultPlace = NONE;
            approvalTold = false;
            gladTold = false;
            humsTold = false;
            drawTold = false;
            token = 0;
            kind = scanner.kinds[0];
            for (int n = 0; n < TAPE_MOST && fault == 0 && kind != Kind.END; n++) {
                readLine();
            }
            return fault == 0;
        }

        /** The lane that was read, for another one to read the next into. */
        Lane handOver(Lane other) {
            Lane ready = into;
            into = other;
            return ready;
        }

        private void advance() {
            if (fault == 0 && kind != Kind.END && kind != Kind.BAD && token < TAPE_MOST) {
                token++;
                kind = scanner.kinds[token];
            }
        }

        // -- lines

        private void readLine() {
            if (!mayBeginLine()) {
                refuse();
                return;
            }
            int first = kind;
            advance();
            switch (first) {
                case Kind.APPROVAL:
                    approvalTold = true;
                    into.approval = readNumber(1, 9);
                    break;
                case Kind.TUNE:
                    readTune(into.tunes);
                    break;
                case Kind.HOUSE:
                    readHouse(into.houses);
                    break;
                case Kind.GLAD:
                    gladTold = true;
                    into.formula.empty();
                    readFormula(0, 0);
                    break;
                case Kind.HUMS:
                    humsTold = true;
                    into.hums = readNumber(0, 100);
                    break;
                default:
                    drawTold = true;
                    into.draw = readNumber(0, 999);
                    break;
            }
            pass(';');
        }

        private boolean mayBeginLine() {
            switch (kind) {
                case Kind.APPROVAL:
                    return !approvalTold;
                case Kind.TUNE:
                    return into.tunes < TUNES_MOST;
                case Kind.HOUSE:
                    return into.houses < HOUSES_MOST;
                case Kind.GLAD:
                    return !gladTold;
                case Kind.HUMS:
                    return !humsTold;
                case Kind.DRAW:
                    return !drawTold;
                default:
                    return false;
            }
        }

        private void readTune(int tune) {
            readName(tuneNames, tune);
            pass(Kind.PRICE);
            into.prices[tune] = readNumber(0, 99);
            pass(Kind.NOTES);
            int count = 0;
            for (int i = 0; i < NOTES_MOST && (i < NOTES_LEAST || kind == Kind.NUMBER); i++) {
                into.notes[tune * NOTES_MOST + i] = readNumber(0, NOTE_KINDS - 1);
                count++;
            }
            into.noteCounts[tune] = count;
            into.tunes = tune + 1;
        }

        private void readHouse(int house) {
            readName(houseNames, house);
            pass(Kind.AT);
            into.places[house] = readNumber(0, PLACE_MOST);
            pass(Kind.PURSE);
            into.purses[house] = readNumber(0, 99);
            pass(Kind.LIKES);
            for (int i = 0; i < LIKED; i++) {
                into.likes[house * LIKED + i] = readNumber(0, NOTE_KINDS - 1);
            }
            into.houses = house + 1;
        }

        private void readName(long[] names, int count) {
            if (kind != Kind.NAME) {
                refuse();
                return;
            }
            long letters = scanner.values[token];
            for (int i = 0; i < count; i++) {
                if (names[i] == letters) {
                    setFault(TOLD_ALREADY);
                    return;
                }
            }
            names[count] = letters;
            advance();
        }

        private int readNumber(int least, int most) {
            if (kind != Kind.NUMBER) {
                refuse();
                return 0;
            }
            int number = (int) scanner.values[token];
            if (number < least || number > most) {
                setFault(CANT_BE);
                return 0;
            }
            advance();
            return number;
        }

        private void pass(int wanted) {
            if (kind == wanted) {
                advance();
            } else {
                refuse();
            }
        }

        private void refuse() {
            setFault(kind == Kind.BAD ? NO_TOKEN : CANT_STAND);
        }

        /** The first fault stays; reading goes no further behind it. */
        private void setFault(int number) {
            if (fault == 0) {
                fault = number;
                faultPlace = scanner.places[token];
            }
        }

        // -- formulas; within is how many parentheses and nots stand around

        private void readFormula(int level, int within) {
            if (fault != 0) {
                return;
            }
            if (level >= UNIT) {
                readUnit(within);
                return;
            }
            if (level == ONE && kind == Kind.NOT) {
                readNot(within);
                return;
            }
            readFormula(level + 1, within);
            int most = level == ONE ? 1 : TAPE_MOST;
            for (int n = 0; n < most && fault == 0 && Kind.levelOf(kind) == level; n++) {
                int operator = kind;
                advance();
                readFormula(level + 1, within);
                into.formula.addOperator(operator);
            }
        }

        private void readNot(int within) {
            if (within >= NESTING_MOST) {
                refuse();
                return;
            }
            advance();
            readFormula(ONE, within + 1);
            into.formula.addOperator(Kind.NOT);
        }

        private void readUnit(int within) {
            boolean opens = kind == '(';
            boolean begins = opens || kind == Kind.NUMBER || Kind.isFact(kind);
            if (!begins || into.units >= UNITS_MOST || opens && within >= NESTING_MOST) {
                refuse();
                return;
            }
            into.units++;
            if (opens) {
                advance();
                readFormula(0, within + 1);
                pass(')');
                return;
            }
            if (kind == Kind.NUMBER) {
                into.formula.addNumber((int) scanner.values[token]);
            } else {
                into.formula.addFact(kind);
            }
            advance();
        }
    }

    /** Where the tunes are and what is in the purses, at one moment. */
    private static final class Standing {
        static final int SIZE = 4 * TUNES_MOST + HOUSES_MOST + 2;
        final int[] where = new int[TUNES_MOST];
        final int[] paid = new int[TUNES_MOST];
        final int[] worn = new int[TUNES_MOST];
        final int[] weeks = new int[TUNES_MOST];
        final int[] purses = new int[HOUSES_MOST];
        int week;
        int seed;

        void begin(Lane lane) {
            for (int tune = 0; tune < TUNES_MOST; tune++) {
                backOnCart(tune);
                worn[tune] = 0;
            }
            for (int house = 0; house < HOUSES_MOST; house++) {
                purses[house] = house < lane.houses ? lane.purses[house] : 0;
            }
            week = 0;
            seed = lane.draw;
        }

        boolean isOnCart(int tune) {
            return where[tune] == CART;
        }

        boolean isPaid(int tune) {
            return paid[tune] == 1;
        }

        boolean isOnApproval(int tune) {
            return !isOnCart(tune) && !isPaid(tune);
        }

        int onApprovalIn(int house) {
            for (int tune = 0; tune < TUNES_MOST; tune++) {
                if (where[tune] == house && !isPaid(tune)) {
                    return tune;
                }
            }
            return NONE;
        }

        void backOnCart(int tune) {
            where[tune] = CART;
            paid[tune] = 0;
            weeks[tune] = 0;
        }

        void pay(int tune) {
            paid[tune] = 1;
            weeks[tune] = 0;
        }

        void copyOf(Standing other) {
            System.arraycopy(other.where, 0, where, 0, TUNES_MOST);
            System.arraycopy(other.paid, 0, paid, 0, TUNES_MOST);
            System.arraycopy(other.worn, 0, worn, 0, TUNES_MOST);
            System.arraycopy(other.weeks, 0, weeks, 0, TUNES_MOST);
            System.arraycopy(other.purses, 0, purses, 0, HOUSES_MOST);
            week = other.week;
            seed = other.seed;
        }

        void writeTo(int[] rows, int row) {
            int at = row * SIZE;
            if (at < 0 || at + SIZE > rows.length) {
                return;
            }
            System.arraycopy(where, 0, rows, at, TUNES_MOST);
            System.arraycopy(paid, 0, rows, at + TUNES_MOST, TUNES_MOST);
            System.arraycopy(worn, 0, rows, at + 2 * TUNES_MOST, TUNES_MOST);
            System.arraycopy(weeks, 0, rows, at + 3 * TUNES_MOST, TUNES_MOST);
            System.arraycopy(purses, 0, rows, at + 4 * TUNES_MOST, HOUSES_MOST);
            rows[at + SIZE - 2] = week;
            rows[at + SIZE - 1] = seed;
        }

        void readFrom(int[] rows, int row) {
            int at = row * SIZE;
            if (at < 0 || at + SIZE > rows.length) {
                return;
            }
            System.arraycopy(rows, at, where, 0, TUNES_MOST);
            System.arraycopy(rows, at + TUNES_MOST, paid, 0, TUNES_MOST);
            System.arraycopy(rows, at + 2 * TUNES_MOST, worn, 0, TUNES_MOST);
            System.arraycopy(rows, at + 3 * TUNES_MOST, weeks, 0, TUNES_MOST);
            System.arraycopy(rows, at + 4 * TUNES_MOST, purses, 0, HOUSES_MOST);
            week = rows[at + SIZE - 2];
            seed = rows[at + SIZE - 1];
        }
    }

    /** The latest acts, as the standings between them: row done is how it is now. */
    private static final class Acts {
        private final int[] rows = new int[(ACTS_MOST + 1) * Standing.SIZE];
        int done;
        int undone;

        void begin(Standing standing) {
            done = 0;
            undone = 0;
            standing.writeTo(rows, 0);
        }

        void keep(Standing standing) {
            undone = 0;
            if (done < ACTS_MOST) {
                done++;
            } else {
                System.arraycopy(rows, Standing.SIZE, rows, 0, ACTS_MOST * Standing.SIZE);
            }
            standing.writeTo(rows, done);
        }

        boolean stepBack(Standing standing) {
            if (done == 0) {
                return false;
            }
            done--;
            undone++;
            standing.readFrom(rows, done);
            return true;
        }

        boolean stepOn(Standing standing) {
            if (undone == 0) {
                return false;
            }
            done++;
            undone--;
            standing.readFrom(rows, done);
            return true;
        }
    }

    /** What is known of the three notes that the last house likes; a row is three notes as one number. */
    private static final class Knowledge {
        static final int ROWS = NOTE_KINDS * NOTE_KINDS * NOTE_KINDS;
        // Of one tune: it has 0 to 8 notes that are liked, with a turn or without.
        private static final int VALUES_MOST = 2 * (NOTES_MOST + 1);
        int count;
        private final int[] tunes = new int[KNOWN_MOST];
        private final int[] gladnesses = new int[KNOWN_MOST];
        private final boolean[] sides = new boolean[KNOWN_MOST];
        private final int[] toldAt = new int[KNOWN_MOST];
        private final int[] untoldAt = new int[KNOWN_MOST];
        // How glad of each tune the house would be by each row, worked out when it is first asked for.
        private final int[] gladByRow = new int[TUNES_MOST * ROWS];
        private boolean weighed;
        private final boolean[] isLeft = new boolean[ROWS];
        private final int[] noteTimes = new int[NOTE_KINDS];
        private final int[] gladBySame = new int[NOTES_MOST + 1];
        private final int[] gladBySameAndTurn = new int[NOTES_MOST + 1];
        private final int[] values = new int[VALUES_MOST];
        private final int[] times = new int[VALUES_MOST];

        void begin() {
            count = 0;
            weighed = false;
        }

        int add(int tune, int gladness, boolean is, int time) {
            if (count >= KNOWN_MOST) {
                return NONE;
            }
            tunes[count] = tune;
            gladnesses[count] = gladness;
            sides[count] = is;
            toldAt[count] = time;
            untoldAt[count] = NONE;
            count++;
            return count - 1;
        }

        boolean drop(int known, int time) {
            if (known < 0 || known >= count || untoldAt[known] != NONE) {
                return false;
            }
            untoldAt[known] = time;
            return true;
        }

        private boolean countsAt(int known, int k) {
            boolean untold = untoldAt[known] != NONE && untoldAt[known] <= k;
            return toldAt[known] <= k && !untold;
        }

        /** Marks the rows by which all is so that counts at k: how many. */
        int sift(Lane lane, int k) {
            if (lane.houses == 0) {
                return 0;
            }
            if (!weighed) {
                weigh(lane);
                weighed = true;
            }
            for (int row = 0; row < ROWS; row++) {
                isLeft[row] = true;
            }
            for (int known = 0; known < count; known++) {
                if (countsAt(known, k)) {
                    strike(known);
                }
            }
            int left = 0;
            for (int row = 0; row < ROWS; row++) {
                if (isLeft[row]) {
                    left++;
                }
            }
            return left;
        }

        private void strike(int known) {
            int first = tunes[known] * ROWS;
            for (int row = 0; row < ROWS; row++) {
                boolean atLeast = gladByRow[first + row] >= gladnesses[known];
                if (atLeast != sides[known]) {
                    isLeft[row] = false;
                }
            }
        }

        private void weigh(Lane lane) {
            for (int tune = 0; tune < lane.tunes; tune++) {
                weighTune(lane, tune);
            }
        }

        /** Gladness differs by same and turn alone, so it is worked out once for each of these. */
        private void weighTune(Lane lane, int tune) {
            int purse = lane.purses[lane.houses - 1];
            int notes = lane.noteCounts[tune];
            countNotes(lane, tune);
            for (int same = 0; same <= notes; same++) {
                gladBySame[same] = lane.gladnessBy(same, false, tune, 0, 0, purse);
                gladBySameAndTurn[same] = lane.gladnessBy(same, true, tune, 0, 0, purse);
            }
            for (int row = 0; row < ROWS; row++) {
                gladByRow[tune * ROWS + row] = gladBySame[sameBy(row)];
            }
            for (int i = 0; i + 2 < notes; i++) {
                int row = rowAt(lane, tune, i);
                gladByRow[tune * ROWS + row] = gladBySameAndTurn[sameBy(row)];
            }
        }

        private void countNotes(Lane lane, int tune) {
            for (int note = 0; note < NOTE_KINDS; note++) {
                noteTimes[note] = 0;
            }
            for (int i = 0; i < lane.noteCounts[tune]; i++) {
                noteTimes[lane.noteLeft(tune, 0, i)]++;
            }
        }

        private static int rowAt(Lane lane, int tune, int i) {
            int a = lane.noteLeft(tune, 0, i);
            int b = lane.noteLeft(tune, 0, i + 1);
            return (a * NOTE_KINDS + b) * NOTE_KINDS + lane.noteLeft(tune, 0, i + 2);
        }

        private static int noteOf(int row, int i) {
            switch (i) {
                case 0:
                    return row / (NOTE_KINDS * NOTE_KINDS) % NOTE_KINDS;
                case 1:
                    return row / NOTE_KINDS % NOTE_KINDS;
                default:
                    return row % NOTE_KINDS;
            }
        }

        /** How many notes of the counted tune are one of the row's three. */
        private int sameBy(int row) {
            int a = noteOf(row, 0);
            int b = noteOf(row, 1);
            int c = noteOf(row, 2);
            int same = noteTimes[a];
            if (b != a) {
                same += noteTimes[b];
            }
            if (c != a && c != b) {
                same += noteTimes[c];
            }
            return same;
        }

        /** The i-th note of all rows that are left; NO_SUCH if it is not the same in all. */
        int commonNote(int i) {
            int common = NONE;
            for (int row = 0; row < ROWS; row++) {
                if (isLeft[row]) {
                    int note = noteOf(row, i);
                    if (common != NONE && common != note) {
                        return NO_SUCH;
                    }
                    common = note;
                }
            }
            return common;
        }

        /** How many of the rows that are left are equally glad of the tune, at the most. */
        int mostAlike(int tune) {
            int kinds = 0;
            int most = 0;
            for (int row = 0; row < ROWS; row++) {
                int value = gladByRow[tune * ROWS + row];
                int kind = isLeft[row] ? kindOf(value, kinds) : VALUES_MOST;
                if (kind < VALUES_MOST) {
                    if (kind == kinds) {
                        values[kind] = value;
                        times[kind] = 0;
                        kinds++;
                    }
                    times[kind]++;
                    most = Math.max(most, times[kind]);
                }
            }
            return most;
        }

        private int kindOf(int value, int kinds) {
            for (int kind = 0; kind < kinds; kind++) {
                if (values[kind] == value) {
                    return kind;
                }
            }
            return kinds;
        }
    }
}
