/**
 * Who may speak on which air: packings of masts, a clock that buys old stations,
 * sentences about bands, moves by weeks, towers and voices.
 */
public final class AirClock {
    public static final int NONE = -1, BAD = -2, NO = -3, FULL = -4;
    public static final int NOT_TOLD = -5;

    // Some calls may answer -2 in earnest, so their BAD is another number.
    private static final int BAD_TEN = -10;
    private static final int BAD_GAIN = -1000000;
    private static final int CAN_NOT_BE = -5;

    private static final int MASTS = 10;
    private static final int SETS = 1 << MASTS;
    private static final int CHANNELS = 6;
    private static final int LIMITS = 2000;
    private static final int VALUES = 1000;
    private static final int WEIGHTS = 10;
    private static final int STARTS = 1000;
    private static final int STEPS = 100;
    private static final int ROUNDS = 50;
    private static final int WORDS = 20;
    private static final int HOUSES = 6;
    private static final int SENTENCES = 24;
    private static final int BAND_SETS = 64;
    private static final int SUMS = 100000;
    private static final int CREWS = 10;
    private static final int PLACES = 16;

    // By the value of a PAIR and the CHANNEL of one mast: the CHANNELS that the other can not have.
    private static final int[] SHUT = {
        0, 0, 0, 0, 0, 0,
        1, 2, 4, 8, 16, 32,
        3, 7, 14, 28, 56, 48,
    };

    private final Air air;
    private final Search search;
    private final Packer packer;
    private final Fall fall;
    private final Trade trade;
    private final Moves moves;
    private final int[] hearers;

    public AirClock() {
        air = new Air();
        search = new Search(air);
        packer = new Packer(air);
        fall = new Fall(air, search);
        trade = new Trade();
        moves = new Moves(air);
        hearers = new int[PLACES];
    }

    // ---- packings

    public int mast() {
        if (air.masts >= MASTS) {
            return FULL;
        }
        air.changes++;
        air.masts++;
        return air.masts - 1;
    }

    public int channels(int n) {
        if (!within(n, 1, CHANNELS)) {
            return BAD;
        }
        int was = air.channels;
        air.channels = n;
        air.changes++;
        return was;
    }

    public int pair(int a, int b, int v) {
        if (!air.isMast(a) || !air.isMast(b) || a == b || !within(v, 0, 2)) {
            return BAD;
        }
        int was = air.pairOf(a, b);
        air.setPair(a, b, v);
        air.changes++;
        return was;
    }

    public int bar(int mast, int channels) {
        if (!air.isMast(mast) || !within(channels, 0, air.allChannels())) {
            return BAD;
        }
        int was = air.bars[mast];
        air.bars[mast] = channels;
        air.changes++;
        return was;
    }

    public int limit(int v) {
        if (!within(v, 1, LIMITS)) {
            return BAD;
        }
        int was = air.limit;
        air.limit = v;
        air.changes++;
        return was;
    }

    public int fits(int set) {
        return air.isSet(set) ? search.lookFor(set) : BAD;
    }

    public int tries(int set) {
        if (!air.isSet(set)) {
            return BAD;
        }
        search.lookFor(set);
        return search.made;
    }

    public int packing(int set, int mast) {
        if (!air.isSet(set) || !air.isMast(mast) || !has(set, mast)) {
            return BAD;
        }
        return packer.firstChannel(set, mast);
    }

    public int reason(int set) {
        if (!air.isSet(set)) {
            return BAD;
        }
        return packer.canPack(set) ? NO : packer.leastPartThatFails(set);
    }

    public int spare(int set) {
        if (!air.isSet(set)) {
            return BAD;
        }
        return packer.canPack(set) ? packer.couldJoin(set) : NO;
    }

    // ---- the clock

    public int old(int mast, int value, int weight) {
        if (!air.isMast(mast) || !within(value, 0, VALUES) || !within(weight, 1, WEIGHTS)) {
            return BAD;
        }
        if (has(fall.olds, mast)) {
            return NO;
        }
        fall.addStation(mast, value, weight);
        return 1;
    }

    public int clock(int start, int step) {
        if (!within(start, 1, STARTS) || !within(step, 1, STEPS) || start > ROUNDS * step) {
            return BAD;
        }
        fall.start = start;
        fall.step = step;
        return 1;
    }

    public int run(int what) {
        if (!within(what, 0, 3)) {
            return BAD;
        }
        fall.letFall(NONE, 0);
        return fall.ending(what);
    }

    public int paid(int mast) {
        if (!fall.isOld(mast)) {
            return BAD;
        }
        fall.letFall(NONE, 0);
        return fall.paidTo[mast];
    }

    public int round(int mast) {
        if (!fall.isOld(mast)) {
            return BAD;
        }
        fall.letFall(NONE, 0);
        return fall.endedIn[mast];
    }

    public int gain(int mast, int word) {
        if (!fall.isOld(mast) || !within(word, 0, VALUES)) {
            return BAD_GAIN;
        }
        return fall.profit(mast, word) - fall.profit(mast, fall.values[mast]);
    }

    public int most(int mast, int w, int d, int what) {
        if (!fall.isOld(mast) || !within(w, 0, VALUES) || !within(d, 1, VALUES) || !within(what, 0, 1)) {
            return BAD_GAIN;
        }
        if (w / d > WORDS) {
            return BAD_GAIN;
        }
        int own = fall.profit(mast, fall.values[mast]);
        int greatest = fall.profit(mast, 0) - own;
        int first = 0;
        for (int word = d; word <= w; word += d) {
            int gained = fall.profit(mast, word) - own;
            if (gained > greatest) {
                greatest = gained;
                first = word;
            }
        }
        return what == 0 ? greatest : first;
    }

    // ---- sentences

    public int house() {
        return trade.houses >= HOUSES ? FULL : trade.addHouse();
    }

    public int ask(int house, int bands, int sum) {
        if (!trade.isHouse(house) || !within(bands, 1, BAND_SETS - 1) || !within(sum, 1, SUMS)) {
            return BAD;
        }
        return trade.sentences >= SENTENCES ? FULL : trade.addSentence(house, bands, sum);
    }

    public int best(int group, int what) {
        if (!trade.isGroup(group)) {
            return BAD_TEN;
        }
        if (what == NONE) {
            return trade.greatest(group);
        }
        if (!trade.isHouse(what) || !has(group, what)) {
            return BAD_TEN;
        }
        trade.share(group);
        return trade.won[what];
    }

    public int takes(int house) {
        return trade.isHouse(house) ? trade.takenBy(house) : BAD;
    }

    public int price(int house, int v) {
        if (!trade.isHouse(house) || !within(v, 0, SUMS)) {
            return BAD;
        }
        int was = trade.prices[house];
        trade.prices[house] = v;
        return was;
    }

    public int blocks(int group) {
        if (!trade.isGroup(group)) {
            return BAD;
        }
        trade.share(trade.allHouses());
        return trade.wouldLeave(group) ? 1 : 0;
    }

    public int alone() {
        return trade.firstToLeave();
    }

    // ---- moves, towers, voices

    public int tell(int mast, int which, int channel) {
        if (!air.isMast(mast) || !within(which, 0, 1) || !within(channel, NONE, CHANNELS - 1)) {
            return BAD_TEN;
        }
        int[] row = which == 0 ? moves.before : moves.after;
        int was = row[mast];
        row[mast] = channel;
        return was;
    }

    public int weeks(int k, int what) {
        if (!within(k, 1, CREWS) || what < NONE) {
            return BAD_TEN;
        }
        int fewest = moves.fewestWeeks(k);
        if (fewest == Moves.NEVER) {
            return CAN_NOT_BE;
        }
        if (what == NONE) {
            return fewest;
        }
        return what < fewest ? moves.movedIn(what, k) : NONE;
    }

    public int tower(int mast, int channel) {
        if (!air.isMast(mast) || !within(channel, 0, air.channels - 1)) {
            return BAD;
        }
        return moves.brokenBy(mast, channel);
    }

    public int free(int mast) {
        return air.isMast(mast) ? moves.freeFor(mast) : BAD;
    }

    public int heard(int place, int masts) {
        if (!within(place, 0, PLACES - 1) || !air.isSet(masts)) {
            return BAD;
        }
        int was = hearers[place];
        hearers[place] = masts;
        return was;
    }

    public int could(int listened, int hearing) {
        if (!air.isSet(listened) || !air.isSet(hearing) || (hearing & ~listened) != 0) {
            return BAD;
        }
        int places = 0;
        for (int place = 0; place < PLACES; place++) {
            if ((hearers[place] & listened) == hearing) {
                places |= 1 << place;
            }
        }
        return places;
    }

    public int count(int what) {
        switch (what) {
            case 0:
                return air.masts;
            case 1:
                return Integer.bitCount(fall.olds);
            case 2:
                return trade.houses;
            case 3:
                return trade.sentences;
            default:
                return BAD;
        }
    }

    public long digest() {
        long h = 401;
        for (int what = 0; what <= 3; what++) {
            h = mix(h, count(what));
        }
        h = mix(mix(h, air.channels), air.limit);
        h = mix(mix(h, fall.start), fall.step);
        for (int mast = 0; mast < air.masts; mast++) {
            h = mixMast(h, mast);
        }
        for (int sentence = 0; sentence < trade.sentences; sentence++) {
            h = mix(h, trade.houseOf[sentence]);
            h = mix(h, trade.bandsOf[sentence]);
            h = mix(h, trade.sumOf[sentence]);
        }
        for (int house = 0; house < trade.houses; house++) {
            h = mix(h, trade.prices[house]);
        }
        for (int place = 0; place < PLACES; place++) {
            h = mix(h, hearers[place]);
        }
        fall.letFall(NONE, 0);
        for (int what = 0; what <= 3; what++) {
            h = mix(h, fall.ending(what));
        }
        return h;
    }

    private long mixMast(long begun, int mast) {
        long h = mix(begun, air.bars[mast]);
        for (int other = 0; other < air.masts; other++) {
            if (other != mast) {
                h = mix(h, air.pairOf(mast, other));
            }
        }
        h = mix(mix(h, fall.values[mast]), fall.weights[mast]);
        return mix(mix(h, moves.before[mast]), moves.after[mast]);
    }

    private static long mix(long h, int v) {
        return 31 * h + v;
    }

    private static boolean within(int v, int least, int greatest) {
        return v >= least && v <= greatest;
    }

    private static boolean has(int set, int member) {
        return (set >> member & 1) != 0;
    }

    /** The place of the only bit of a number: of 1 it is 0, of 8 it is 3. */
    private static int placeOf(int bit) {
        return Integer.bitCount(bit - 1);
    }

    /** The masts, which channels they may have and how they hear each other. */
    private static final class Air {
        int masts = 0;
        int channels = 3;
        int limit = LIMITS;
        // Goes on with each change of what the search looks at: what it found before is then out of date.
        int changes = 1;
        final int[] bars = new int[MASTS];
        private final int[] pairs = new int[MASTS * MASTS];

        boolean isMast(int mast) {
            return mast >= 0 && mast < masts;
        }

        boolean isSet(int set) {
            return set >= 0 && set < 1 << masts;
        }

        int allChannels() {
            return (1 << channels) - 1;
        }

        int mayHave(int mast) {
            return mast >= 0 && mast < masts ? (1 << channels) - 1 & ~bars[mast] : 0;
        }

        int pairOf(int a, int b) {
            return isMast(a) && isMast(b) ? pairs[a * MASTS + b] : 0;
        }

        void setPair(int a, int b, int v) {
            if (isMast(a) && isMast(b)) {
                pairs[a * MASTS + b] = v;
                pairs[b * MASTS + a] = v;
            }
        }

        /** The channels that a mast can not have while another one is on a channel (or off the air). */
        int shutFor(int mast, int other, int channel) {
            int at = mast * MASTS + other;
            if (at < 0 || at >= pairs.length || channel < 0 || channel >= CHANNELS) {
                return 0;
            }
            return SHUT[pairs[at] * CHANNELS + channel];
        }
    }

    /** THE SEARCH just as it is told, for its tries are told too. */
    private static final class Search {
        int made = 0;
        private final Air air;
        private int size = 0;
        private final int[] row = new int[MASTS];
        private final int[] may = new int[MASTS];
        private final int[] given = new int[MASTS];
        // The clock looks for the same sets again and again: what was found, with the change it was found at.
        private final int[] found = new int[SETS];

        Search(Air air) {
            this.air = air;
        }

        /** 1: there is a packing, 0: there is none, or NOT_TOLD. */
        int lookFor(int set) {
            size = 0;
            made = 0;
            for (int mast = 0; mast < air.masts; mast++) {
                if (has(set, mast)) {
                    row[size] = mast;
                    may[size] = air.mayHave(mast);
                    size++;
                }
            }
            return goOn(0);
        }

        boolean finds(int set) {
            if (!air.isSet(set)) {
                return false;
            }
            if (found[set] >> 1 != air.changes) {
                found[set] = air.changes << 1 | (lookFor(set) == 1 ? 1 : 0);
            }
            return (found[set] & 1) != 0;
        }

        private int goOn(int at) {
            if (at >= size || at >= MASTS) {
                return 1;
            }
            int open = may[at];
            for (int ahead = 0; ahead < at; ahead++) {
                open &= ~air.shutFor(row[at], row[ahead], given[ahead]);
            }
            for (int channel = 0; channel < air.channels; channel++) {
                if (made >= air.limit) {
                    return NOT_TOLD;
                }
                made++;
                if (has(open, channel)) {
                    given[at] = channel;
                    int end = goOn(at + 1);
                    if (end != 0) {
                        return end;
                    }
                }
            }
            return 0;
        }
    }

    /**
     * Packings whatever LIMIT is. THE SEARCH could take millions of tries here, so this one
     * takes the tightest mast first and lets go of masts that always find a channel.
     */
    private static final class Packer {
        private final Air air;
        private final int[] allowed = new int[MASTS];
        private final int[] crowd = new int[MASTS];
        // A row of open channels for each depth, so that going back needs no undoing.
        private final int[] open = new int[(MASTS + 1) * MASTS];

        Packer(Air air) {
            this.air = air;
        }

        boolean canPack(int set) {
            allowAll();
            return packs(set);
        }

        /** The channel of a mast in the first packing as a row. */
        int firstChannel(int set, int mast) {
            if (!air.isMast(mast) || !canPack(set)) {
                return NONE;
            }
            for (int next = 0; next <= mast; next++) {
                if (has(set, next)) {
                    fixFirst(set, next);
                }
            }
            return placeOf(allowed[mast]);
        }

        int leastPartThatFails(int set) {
            for (int size = 1; size <= MASTS; size++) {
                for (int part = 1; part <= set; part++) {
                    if ((part & ~set) == 0 && Integer.bitCount(part) == size && !canPack(part)) {
                        return part;
                    }
                }
            }
            return NO;
        }

        int couldJoin(int set) {
            int joining = 0;
            for (int mast = 0; mast < air.masts; mast++) {
                if (!has(set, mast) && canPack(set | 1 << mast)) {
                    joining |= 1 << mast;
                }
            }
            return joining;
        }

        private void allowAll() {
            for (int mast = 0; mast < air.masts; mast++) {
                allowed[mast] = air.mayHave(mast);
            }
        }

        private void fixFirst(int set, int mast) {
            int may = allowed[mast];
            for (int channel = 0; channel < air.channels; channel++) {
                if (has(may, channel)) {
                    allowed[mast] = 1 << channel;
                    if (packs(set)) {
                        return;
                    }
                }
            }
        }

        private boolean packs(int set) {
            int hard = hardPart(set);
            for (int mast = 0; mast < air.masts; mast++) {
                open[mast] = allowed[mast];
            }
            return packRest(hard, 0);
        }

        /** Lets go of each mast that has more channels than all masts it hears could shut. */
        private int hardPart(int set) {
            int hard = set;
            for (int pass = 0; pass < MASTS; pass++) {
                int ahead = hard;
                for (int mast = 0; mast < air.masts; mast++) {
                    if (has(hard, mast)) {
                        crowd[mast] = mostShut(mast, hard);
                        hard = Integer.bitCount(allowed[mast]) > crowd[mast] ? hard & ~(1 << mast) : hard;
                    }
                }
                if (hard == ahead) {
                    break;
                }
            }
            return hard;
        }

        private int mostShut(int mast, int set) {
            int shut = 0;
            for (int other = 0; other < air.masts; other++) {
                if (has(set, other)) {
                    int v = air.pairOf(mast, other);
                    shut += v == 2 ? 3 : v;
                }
            }
            return shut;
        }

        private boolean packRest(int left, int depth) {
            if (left == 0) {
                return true;
            }
            if (depth >= MASTS) {
                return false;
            }
            int mast = tightest(left, depth);
            int rest = left & ~(1 << mast);
            int may = open[depth * MASTS + mast];
            for (int channel = 0; channel < air.channels; channel++) {
                if (has(may, channel) && narrow(mast, channel, rest, depth) && packRest(rest, depth + 1)) {
                    return true;
                }
            }
            return false;
        }

        private int tightest(int left, int depth) {
            int chosen = 0;
            int fewest = CHANNELS + 1;
            for (int mast = 0; mast < air.masts; mast++) {
                if (has(left, mast)) {
                    int many = Integer.bitCount(open[depth * MASTS + mast]);
                    if (many < fewest || many == fewest && crowd[mast] > crowd[chosen]) {
                        chosen = mast;
                        fewest = many;
                    }
                }
            }
            return chosen;
        }

        /** Shuts for the rest what a mast on a channel shuts; false if one of them has nothing left. */
        private boolean narrow(int mast, int channel, int rest, int depth) {
            for (int other = 0; other < air.masts; other++) {
                if (has(rest, other)) {
                    int still = open[depth * MASTS + other] & ~air.shutFor(other, mast, channel);
                    if (still == 0) {
                        return false;
                    }
                    open[(depth + 1) * MASTS + other] = still;
                }
            }
            return true;
        }
    }

    /** THE CLOCK, and how its last fall ended. */
    private static final class Fall {
        int olds = 0;
        int start = 100;
        int step = 10;
        final int[] values = new int[MASTS];
        final int[] weights = new int[MASTS];
        final int[] paidTo = new int[MASTS];
        final int[] endedIn = new int[MASTS];
        private final Air air;
        private final Search search;
        private int back = 0;
        private int frozen = 0;
        private int rounds = 0;

        Fall(Air air, Search search) {
            this.air = air;
            this.search = search;
        }

        boolean isOld(int mast) {
            return air.isMast(mast) && has(olds, mast);
        }

        void addStation(int mast, int value, int weight) {
            if (air.isMast(mast)) {
                olds |= 1 << mast;
                values[mast] = value;
                weights[mast] = weight;
            }
        }

        /** The whole fall; the speaker (NONE: nobody) tells the word instead of its value. */
        void letFall(int speaker, int word) {
            back = 0;
            frozen = 0;
            rounds = 0;
            for (int at = 0; at <= ROUNDS && (back | frozen) != olds; at++) {
                for (int mast = 0; mast < air.masts; mast++) {
                    if (has(olds & ~(back | frozen), mast)) {
                        offer(mast, at, mast == speaker ? word : values[mast]);
                    }
                }
                rounds++;
            }
        }

        int ending(int what) {
            switch (what) {
                case 0:
                    return back;
                case 1:
                    return frozen;
                case 2:
                    return rounds;
                default:
                    return allPaid();
            }
        }

        /** What a station has above its own value if it tells a word. */
        int profit(int mast, int word) {
            if (!isOld(mast)) {
                return 0;
            }
            letFall(mast, word);
            return has(frozen, mast) ? paidTo[mast] - values[mast] : 0;
        }

        private void offer(int mast, int at, int value) {
            int price = priceIn(at);
            if (!search.finds(back | 1 << mast)) {
                frozen |= 1 << mast;
                paidTo[mast] = priceIn(at - 1) * weights[mast];
                endedIn[mast] = at;
            } else if (price == 0 || price * weights[mast] < value) {
                back |= 1 << mast;
                paidTo[mast] = 0;
                endedIn[mast] = at;
            }
        }

        private int priceIn(int at) {
            return at <= 0 ? start : Math.max(0, start - at * step);
        }

        private int allPaid() {
            int sum = 0;
            for (int mast = 0; mast < air.masts; mast++) {
                sum += has(frozen, mast) ? paidTo[mast] : 0;
            }
            return sum;
        }
    }

    /** HOUSES, their SENTENCES and PRICES. */
    private static final class Trade {
        int houses = 0;
        int sentences = 0;
        final int[] houseOf = new int[SENTENCES];
        final int[] bandsOf = new int[SENTENCES];
        final int[] sumOf = new int[SENTENCES];
        final int[] prices = new int[HOUSES];
        final int[] won = new int[HOUSES];
        // For each group and each set of bands: the greatest sum of that group on those bands.
        private final int[] sums = new int[(1 << HOUSES) * BAND_SETS];
        private boolean stale = true;

        boolean isHouse(int house) {
            return house >= 0 && house < houses;
        }

        boolean isGroup(int group) {
            return group >= 0 && group <= allHouses();
        }

        int allHouses() {
            return (1 << houses) - 1;
        }

        int addHouse() {
            houses++;
            stale = true;
            return houses - 1;
        }

        int addSentence(int house, int bands, int sum) {
            if (sentences >= SENTENCES) {
                return FULL;
            }
            houseOf[sentences] = house;
            bandsOf[sentences] = bands;
            sumOf[sentences] = sum;
            sentences++;
            stale = true;
            return sentences - 1;
        }

        int greatest(int group) {
            if (!isGroup(group)) {
                return 0;
            }
            weigh();
            return sums[group * BAND_SETS + BAND_SETS - 1];
        }

        /** THE BEST of a group, into won: the first row that reaches its sum. */
        void share(int group) {
            weigh();
            int left = group & allHouses();
            int bands = BAND_SETS - 1;
            for (int house = 0; house < houses; house++) {
                won[house] = NONE;
                if (has(left, house)) {
                    int rest = left & ~(1 << house);
                    won[house] = firstToReach(sums[left * BAND_SETS + bands], house, rest, bands);
                    bands = won[house] == NONE ? bands : bands & ~bandsOf[won[house]];
                    left = rest;
                }
            }
        }

        int takenBy(int house) {
            int all = allHouses();
            share(all);
            int others = greatest(all) - winOf(house);
            return greatest(all & ~(1 << house)) - others;
        }

        /** Whether a group blocks, when THE BEST of all is in won. */
        boolean wouldLeave(int group) {
            int kept = 0;
            for (int house = 0; house < houses; house++) {
                if (won[house] != NONE) {
                    kept += prices[house];
                    kept += has(group, house) ? Math.max(0, winOf(house) - prices[house]) : 0;
                }
            }
            return greatest(group) > kept;
        }

        int firstToLeave() {
            share(allHouses());
            for (int group = 1; group <= allHouses(); group++) {
                if (wouldLeave(group)) {
                    return group;
                }
            }
            return NONE;
        }

        private int winOf(int house) {
            if (!isHouse(house) || won[house] < 0 || won[house] >= sentences) {
                return 0;
            }
            return sumOf[won[house]];
        }

        private int firstToReach(int sum, int house, int rest, int bands) {
            if (sums[rest * BAND_SETS + bands] == sum) {
                return NONE;
            }
            for (int sentence = 0; sentence < sentences; sentence++) {
                int asked = bandsOf[sentence];
                if (houseOf[sentence] == house && (asked & ~bands) == 0
                        && sumOf[sentence] + sums[rest * BAND_SETS + (bands & ~asked)] == sum) {
                    return sentence;
                }
            }
            return NONE;
        }

        private void weigh() {
            if (!stale) {
                return;
            }
            for (int group = 1; group <= allHouses(); group++) {
                // The first house of a group is put to the rest of it, which is a lesser number and so is weighed.
                int rest = group & group - 1;
                int house = placeOf(group & ~rest);
                System.arraycopy(sums, rest * BAND_SETS, sums, group * BAND_SETS, BAND_SETS);
                for (int sentence = 0; sentence < sentences; sentence++) {
                    if (houseOf[sentence] == house) {
                        raise(group, rest, bandsOf[sentence], sumOf[sentence]);
                    }
                }
            }
            stale = false;
        }

        private void raise(int group, int rest, int asked, int sum) {
            for (int bands = asked; bands < BAND_SETS; bands++) {
                if ((asked & ~bands) == 0) {
                    int reached = sum + sums[rest * BAND_SETS + (bands & ~asked)];
                    int at = group * BAND_SETS + bands;
                    sums[at] = Math.max(sums[at], reached);
                }
            }
        }
    }

    /** Old and new CHANNELS, and the weeks between them. */
    private static final class Moves {
        static final int NEVER = 1000;
        final int[] before = {NONE, NONE, NONE, NONE, NONE, NONE, NONE, NONE, NONE, NONE};
        final int[] after = {NONE, NONE, NONE, NONE, NONE, NONE, NONE, NONE, NONE, NONE};
        private final Air air;
        // The fewest weeks that are still needed when a set has moved.
        private final int[] needed = new int[SETS];

        Moves(Air air) {
            this.air = air;
        }

        int fewestWeeks(int crews) {
            int moving = toMove();
            for (int moved = moving; moved >= 0; moved--) {
                if ((moved & ~moving) == 0) {
                    needed[moved] = nobodyIsHeard(moved) ? weeksFrom(moved, moving, crews) : NEVER;
                }
            }
            return needed[0];
        }

        /** The set moved in a week, when the fewest weeks have been found. */
        int movedIn(int week, int crews) {
            int moving = toMove();
            int moved = 0;
            int step = 0;
            for (int at = 0; at <= week && at < MASTS; at++) {
                step = firstStep(moved, moving & ~moved, crews);
                moved |= step;
            }
            return step;
        }

        int brokenBy(int mast, int channel) {
            int broken = 0;
            for (int other = 0; other < air.masts; other++) {
                if (other != mast && has(air.shutFor(mast, other, after[other]), channel)) {
                    broken |= 1 << other;
                }
            }
            return broken;
        }

        int freeFor(int mast) {
            int open = air.mayHave(mast);
            for (int other = 0; other < air.masts; other++) {
                if (other != mast) {
                    open &= ~air.shutFor(mast, other, after[other]);
                }
            }
            return open;
        }

        private int toMove() {
            int moving = 0;
            for (int mast = 0; mast < air.masts; mast++) {
                moving |= before[mast] != after[mast] ? 1 << mast : 0;
            }
            return moving;
        }

        private boolean nobodyIsHeard(int moved) {
            for (int mast = 1; mast < air.masts; mast++) {
                int channel = channelOf(mast, moved);
                for (int other = 0; channel != NONE && other < mast; other++) {
                    if (has(air.shutFor(mast, other, channelOf(other, moved)), channel)) {
                        return false;
                    }
                }
            }
            return true;
        }

        private int channelOf(int mast, int moved) {
            if (!air.isMast(mast)) {
                return NONE;
            }
            return has(moved, mast) ? after[mast] : before[mast];
        }

        private int weeksFrom(int moved, int moving, int crews) {
            if (moved == moving) {
                return 0;
            }
            int left = moving & ~moved;
            int fewest = NEVER;
            for (int step = left; step > 0; step = step - 1 & left) {
                if (Integer.bitCount(step) <= crews) {
                    fewest = Math.min(fewest, needed[moved | step] + 1);
                }
            }
            return Math.min(fewest, NEVER);
        }

        private int firstStep(int moved, int left, int crews) {
            for (int step = 1; step <= left; step++) {
                if ((step & ~left) == 0 && Integer.bitCount(step) <= crews
                        && needed[moved | step] + 1 == needed[moved]) {
                    return step;
                }
            }
            return 0;
        }
    }
}
