import java.math.BigInteger;
import java.util.ArrayList;
import java.util.List;

/** Promises 26 to 33 at their edges: a method for each sentence of the document that names one. */
public final class MovesEdgesTest {
    private static final int BAD_TEN = -10;
    private static final int CAN_NOT_BE = -5;

    private MovesEdgesTest() {
    }

    public static void main(String[] args) {
        tellOfMastsThatAreThere();
        tellOldOrNew();
        tellChannelsFromNoneToFive();
        tellWhateverChannelsAre();
        crewsFromOneToTen();
        weeksFromNoneOn();
        canNotBeWhateverWeek();
        upToAsManyAsCrews();
        onlyUnlikeChannelsAreMoved();
        oldOnesAllTogether();
        newOnesAllTogether();
        behindEachWeek();
        aPairOnTheAir();
        theFirstRow();
        barsAndChannelsAreNotLookedAt();
        towerOfMastsThatAreThere();
        towerOnChannelsThatAreThere();
        towerOnEachChannel();
        towerAtItsEnds();
        freeOfMastsThatAreThere();
        freeAtItsEnds();
        placesFromNoneTo15();
        heardByMastsThatAreThere();
        couldOfMastsThatAreThere();
        whoHeardHadListened();
        couldAtItsEnds();
        countFromNoneToThree();
        digestOfNothing();
        digestWrapsAround();
        digestOfOneMast();
        digestTellsEachChange();
        the512thCall();
        Due.end();
    }

    private static void move(AirClock x, int mast, int from, int to) {
        x.tell(mast, 0, from);
        x.tell(mast, 1, to);
    }

    // ---- promise 26

    private static void tellOfMastsThatAreThere() {
        AirClock x = Edge.withMasts(2);
        Edge.outside(x, "tell of a mast", BAD_TEN, v -> x.tell(v, 0, 0), 0, 1);
        Due.is("the first mast", x.tell(0, 0, 0), AirClock.NONE);
        Due.is("the last mast", x.tell(1, 0, 1), AirClock.NONE);
        x.mast();
        Due.is("the next mast is off the air", x.tell(2, 1, 0), AirClock.NONE);
        AirClock y = Edge.withMasts(10);
        Due.is("mast 9", y.tell(9, 1, 5), AirClock.NONE);
        Edge.refuses(y, "mast 10", BAD_TEN, v -> y.tell(10, v, 0), 0, 1);
        Due.is("mast 9 was told", y.tell(9, 1, 5), 5);
    }

    private static void tellOldOrNew() {
        AirClock x = Edge.withMasts(1);
        Edge.outside(x, "which", BAD_TEN, v -> x.tell(0, v, 3), 0, 1);
        Due.is("old", x.tell(0, 0, 3), AirClock.NONE);
        Due.is("new is its own", x.tell(0, 1, 4), AirClock.NONE);
        Edge.outside(x, "which when told", BAD_TEN, v -> x.tell(0, v, 5), 0, 1);
        Due.is("old was 3", x.tell(0, 0, 3), 3);
        Due.is("new was 4", x.tell(0, 1, 4), 4);
    }

    private static void tellChannelsFromNoneToFive() {
        AirClock x = Edge.withMasts(1);
        for (int which = 0; which <= 1; which++) {
            int side = which;
            Edge.outside(x, "channel told", BAD_TEN, v -> x.tell(0, side, v), AirClock.NONE, 5);
            int was = AirClock.NONE;
            for (int channel = 5; channel >= AirClock.NONE; channel--) {
                Due.is("channel " + channel, x.tell(0, side, channel), was);
                was = channel;
            }
            Edge.outside(x, "channel told when off the air", BAD_TEN, v -> x.tell(0, side, v), AirClock.NONE, 5);
            Due.is("off the air", x.tell(0, side, 0), AirClock.NONE);
        }
    }

    private static void tellWhateverChannelsAre() {
        for (int n = 1; n <= 6; n++) {
            AirClock x = Edge.withMasts(1);
            x.channels(n);
            Due.is("channel 5 of " + n, x.tell(0, 0, 5), AirClock.NONE);
            Edge.refuses(x, "channel 6 of " + n, BAD_TEN, v -> x.tell(0, 0, v), 6);
            Due.is("channel 5 was told", x.tell(0, 0, 0), 5);
        }
    }

    // ---- promise 27

    private static void crewsFromOneToTen() {
        AirClock x = Edge.withMasts(10);
        for (int mast = 0; mast < 10; mast++) {
            move(x, mast, 0, 1);
        }
        Edge.outside(x, "crews", BAD_TEN, v -> x.weeks(v, AirClock.NONE), 1, 10);
        Edge.outside(x, "crews, week 0", BAD_TEN, v -> x.weeks(v, 0), 1, 10);
        int[] due = {10, 5, 4, 3, 2, 2, 2, 2, 2, 1};
        for (int k = 1; k <= 10; k++) {
            Due.is("weeks with " + k, x.weeks(k, AirClock.NONE), due[k - 1]);
            Due.is("a last week with " + k, x.weeks(k, due[k - 1] - 1) > 0 ? 1 : 0, 1);
            Due.is("no week behind it with " + k, x.weeks(k, due[k - 1]), AirClock.NONE);
        }
    }

    private static void weeksFromNoneOn() {
        AirClock x = Edge.withMasts(2);
        Due.is("nobody moves: weeks", x.weeks(1, AirClock.NONE), 0);
        Due.is("nobody moves: week 0", x.weeks(1, 0), AirClock.NONE);
        move(x, 0, 0, 1);
        move(x, 1, 0, 1);
        Edge.refuses(x, "what below NONE", BAD_TEN, v -> x.weeks(1, v), -2, -3, -10, Edge.LOW);
        Due.is("week 0", x.weeks(1, 0), 1);
        Due.is("week 1", x.weeks(1, 1), 2);
        for (int week : new int[] {2, 3, 9, 10, 11, 32, 256, Edge.HUGE}) {
            Due.is("not so many: " + week, x.weeks(1, week), AirClock.NONE);
        }
    }

    private static void canNotBeWhateverWeek() {
        AirClock x = Edge.crowd(2, 3, 1);
        move(x, 0, 0, 1);
        move(x, 1, 1, 0);
        for (int week : new int[] {AirClock.NONE, 0, 1, 10, Edge.HUGE}) {
            Due.is("it can not be: " + week, x.weeks(1, week), CAN_NOT_BE);
        }
        Edge.refuses(x, "BAD is ahead of it: crews", BAD_TEN, v -> x.weeks(v, 0), 0, 11);
        Edge.refuses(x, "BAD is ahead of it: week", BAD_TEN, v -> x.weeks(1, v), -2);
        Due.is("with two crews it can", x.weeks(2, AirClock.NONE), 1);
    }

    private static void upToAsManyAsCrews() {
        AirClock x = Edge.withMasts(4);
        for (int mast = 0; mast < 4; mast++) {
            move(x, mast, 0, 1);
        }
        Due.is("four by four", x.weeks(4, 0), 15);
        Due.is("four by three: fewest", x.weeks(3, AirClock.NONE), 2);
        Due.is("four by three: one, as the first row", x.weeks(3, 0), 1);
        Due.is("four by three: then three", x.weeks(3, 1), 14);
        Due.is("four by two: two", x.weeks(2, 0), 3);
        Due.is("four by two: then two", x.weeks(2, 1), 12);
        Due.is("four by one: the last", x.weeks(1, 3), 8);
    }

    private static void onlyUnlikeChannelsAreMoved() {
        AirClock x = Edge.withMasts(4);
        move(x, 0, 2, 2);
        move(x, 1, AirClock.NONE, 0);
        move(x, 2, 0, AirClock.NONE);
        Due.is("those that are unlike", x.weeks(10, 0), 6);
        Due.is("one week", x.weeks(10, AirClock.NONE), 1);
        move(x, 1, 0, 0);
        Due.is("one of them", x.weeks(10, 0), 4);
        move(x, 2, 0, 0);
        Due.is("none of them", x.weeks(10, AirClock.NONE), 0);
        Due.is("no week", x.weeks(10, 0), AirClock.NONE);
    }

    private static void oldOnesAllTogether() {
        AirClock x = Edge.crowd(2, 3, 1);
        move(x, 0, 4, 0);
        move(x, 1, 4, 1);
        Due.is("old ones break", x.weeks(2, AirClock.NONE), CAN_NOT_BE);
        x.tell(1, 0, 5);
        Due.is("old ones next to each other", x.weeks(2, AirClock.NONE), 1);
        x.pair(0, 1, 2);
        Due.is("they break by 2", x.weeks(2, AirClock.NONE), CAN_NOT_BE);
        x.tell(1, 1, 2);
        x.tell(1, 0, AirClock.NONE);
        Due.is("off the air it does not", x.weeks(2, AirClock.NONE), 1);
    }

    private static void newOnesAllTogether() {
        AirClock x = Edge.crowd(2, 3, 1);
        move(x, 0, 0, 4);
        move(x, 1, 2, 4);
        Due.is("new ones break", x.weeks(2, AirClock.NONE), CAN_NOT_BE);
        x.tell(1, 1, 5);
        Due.is("new ones next to each other", x.weeks(2, AirClock.NONE), 1);
        x.pair(0, 1, 2);
        Due.is("they break by 2", x.weeks(2, AirClock.NONE), CAN_NOT_BE);
        x.tell(1, 1, AirClock.NONE);
        Due.is("off the air it does not", x.weeks(2, AirClock.NONE), 1);
        AirClock y = Edge.crowd(2, 3, 1);
        move(y, 0, 3, 3);
        move(y, 1, 3, 3);
        Due.is("nobody moves, but they break", y.weeks(1, AirClock.NONE), CAN_NOT_BE);
    }

    private static void behindEachWeek() {
        AirClock x = Edge.crowd(3, 3, 1);
        move(x, 0, 0, 1);
        move(x, 1, 1, 2);
        move(x, 2, 2, 0);
        Due.is("a ring by one", x.weeks(1, AirClock.NONE), CAN_NOT_BE);
        Due.is("a ring by two", x.weeks(2, AirClock.NONE), CAN_NOT_BE);
        Due.is("a ring by three", x.weeks(3, AirClock.NONE), 1);
        x.tell(2, 1, 3);
        Due.is("a row by one", x.weeks(1, AirClock.NONE), 3);
        Due.is("a row by one: the last first", x.weeks(1, 0), 4);
        Due.is("a row by two: the last first", x.weeks(2, 0), 4);
        Due.is("a row by two: then both", x.weeks(2, 1), 3);
    }

    private static void aPairOnTheAir() {
        for (int v = 0; v <= 2; v++) {
            AirClock x = Edge.withMasts(2);
            x.pair(0, 1, v);
            for (int a = AirClock.NONE; a <= 5; a++) {
                move(x, 0, a, a);
                for (int b = AirClock.NONE; b <= 5; b++) {
                    move(x, 1, b, b);
                    boolean broken = a >= 0 && b >= 0 && Math.abs(a - b) < v;
                    Due.is("pair " + v + " on " + a + " and " + b, x.weeks(1, AirClock.NONE), broken ? CAN_NOT_BE : 0);
                }
            }
        }
    }

    private static void theFirstRow() {
        AirClock x = Edge.withMasts(3);
        x.pair(0, 2, 1);
        move(x, 0, 0, 1);
        move(x, 1, 0, 1);
        move(x, 2, 1, 2);
        Due.is("fewest", x.weeks(2, AirClock.NONE), 2);
        Due.is("0 by itself would break, 1 does not", x.weeks(2, 0), 2);
        Due.is("then the two that hear each other, at once", x.weeks(2, 1), 5);
        Due.is("by one: 1, as 0 would break", x.weeks(1, 0), 2);
        Due.is("by one: 2 ahead of 0", x.weeks(1, 1), 4);
        Due.is("by one: 0 is last", x.weeks(1, 2), 1);
        x.pair(0, 2, 0);
        Due.is("0 by itself", x.weeks(2, 0), 1);
        Due.is("then the later ones", x.weeks(2, 1), 6);
    }

    private static void barsAndChannelsAreNotLookedAt() {
        AirClock x = Edge.withMasts(1);
        x.bar(0, 7);
        move(x, 0, 0, 2);
        Due.is("barred", x.weeks(1, 0), 1);
        x.bar(0, 0);
        x.channels(1);
        move(x, 0, 4, 5);
        Due.is("beyond CHANNELS", x.weeks(1, 0), 1);
    }

    // ---- promise 28

    private static void towerOfMastsThatAreThere() {
        AirClock x = Edge.withMasts(2);
        Edge.outside(x, "tower of a mast", AirClock.BAD, v -> x.tower(v, 0), 0, 1);
        Due.is("the first", x.tower(0, 0), 0);
        Due.is("the last", x.tower(1, 0), 0);
        AirClock y = Edge.withMasts(10);
        Due.is("mast 9", y.tower(9, 0), 0);
        Edge.refuses(y, "mast 10", AirClock.BAD, v -> y.tower(v, 0), 10);
    }

    private static void towerOnChannelsThatAreThere() {
        for (int n = 1; n <= 6; n++) {
            AirClock x = Edge.crowd(2, n, 1);
            Edge.outside(x, "tower with " + n, AirClock.BAD, v -> x.tower(0, v), 0, n - 1);
            x.tell(1, 1, n - 1);
            Due.is("the last channel of " + n, x.tower(0, n - 1), 2);
            Due.is("the first channel of " + n, x.tower(0, 0), n == 1 ? 2 : 0);
        }
    }

    private static void towerOnEachChannel() {
        for (int v = 0; v <= 2; v++) {
            AirClock x = Edge.withMasts(2);
            x.channels(6);
            x.pair(0, 1, v);
            for (int told = AirClock.NONE; told <= 5; told++) {
                x.tell(1, 1, told);
                int open = 0;
                for (int c = 0; c < 6; c++) {
                    boolean broken = told >= 0 && Math.abs(told - c) < v;
                    open |= broken ? 0 : 1 << c;
                    Due.is("pair " + v + ", " + told + " and " + c, x.tower(0, c), broken ? 2 : 0);
                }
                Due.is("pair " + v + ", free of " + told, x.free(0), open);
            }
        }
    }

    private static void towerAtItsEnds() {
        AirClock x = Edge.crowd(10, 6, 2);
        Due.is("nobody has a new channel", x.tower(0, 3), 0);
        for (int mast = 0; mast < 10; mast++) {
            x.tell(mast, 0, 3);
        }
        Due.is("old channels do not matter", x.tower(0, 3), 0);
        x.tell(0, 1, 3);
        Due.is("it does not break itself", x.tower(0, 3), 0);
        Due.is("it is broken by another", x.tower(9, 3), 1);
        for (int mast = 1; mast < 10; mast++) {
            x.tell(mast, 1, 4);
        }
        Due.is("all others", x.tower(0, 3), 1022);
        Due.is("all others by the last", x.tower(9, 4), 511);
        Due.is("nobody on 2", x.tower(0, 2), 0);
        x.bar(0, 4);
        Due.is("bars do not matter to a tower", x.tower(0, 2), 0);
    }

    // ---- promise 29

    private static void freeOfMastsThatAreThere() {
        AirClock x = Edge.withMasts(2);
        Edge.outside(x, "free", AirClock.BAD, x::free, 0, 1);
        Due.is("the first", x.free(0), 7);
        Due.is("the last", x.free(1), 7);
        AirClock y = Edge.withMasts(10);
        Due.is("mast 9", y.free(9), 7);
        Edge.refuses(y, "mast 10", AirClock.BAD, y::free, 10);
        y.pair(0, 9, 1);
        y.tell(0, 1, 0);
        y.tell(9, 1, 2);
        Due.is("the first shuts the last one's", y.free(9), 6);
        Due.is("the last shuts the first one's", y.free(0), 3);
    }

    private static void freeAtItsEnds() {
        AirClock x = Edge.crowd(3, 6, 2);
        Due.is("all six", x.free(0), 63);
        x.channels(1);
        Due.is("one alone", x.free(0), 1);
        x.channels(6);
        x.tell(0, 1, 2);
        Due.is("its own channel is free for it", x.free(0), 63);
        x.tell(1, 1, 1);
        x.tell(2, 1, 4);
        Due.is("nothing", x.free(0), 0);
        x.tell(2, 1, 5);
        Due.is("one between them", x.free(0), 8);
        x.bar(0, 8);
        Due.is("it may not have it", x.free(0), 0);
        x.bar(0, 63 - 8);
        Due.is("it may have no other", x.free(0), 8);
        x.bar(0, 0);
        x.tell(1, 1, AirClock.NONE);
        x.channels(5);
        Due.is("a new channel beyond CHANNELS shuts the one next to it", x.free(0), 15);
        x.channels(4);
        Due.is("and no other", x.free(0), 15);
    }

    // ---- promise 30

    private static void placesFromNoneTo15() {
        AirClock x = Edge.withMasts(1);
        Edge.outside(x, "place", AirClock.BAD, v -> x.heard(v, 1), 0, 15);
        Due.is("place 0", x.heard(0, 1), 0);
        Due.is("place 15", x.heard(15, 1), 0);
        Due.is("both could be", x.could(1, 1), 32769);
        Edge.outside(x, "place when told", AirClock.BAD, v -> x.heard(v, 0), 0, 15);
        Due.is("place 0 was told", x.heard(0, 0), 1);
        Due.is("place 15 was told", x.heard(15, 0), 1);
    }

    private static void heardByMastsThatAreThere() {
        for (int masts : new int[] {0, 1, 5, 10}) {
            AirClock x = Edge.withMasts(masts);
            int all = (1 << masts) - 1;
            Edge.outside(x, "heard by " + masts, AirClock.BAD, v -> x.heard(7, v), 0, all);
            Due.is("heard by nobody at first", x.heard(7, all), 0);
            Edge.outside(x, "heard by all of " + masts, AirClock.BAD, v -> x.heard(7, v), 0, all);
            Due.is("heard by all", x.heard(7, 0), all);
            Due.is("heard by nobody", x.heard(7, 0), 0);
        }
    }

    // ---- promise 31

    private static void couldOfMastsThatAreThere() {
        for (int masts : new int[] {0, 1, 5, 10}) {
            AirClock x = Edge.withMasts(masts);
            int all = (1 << masts) - 1;
            x.heard(4, all);
            Due.is("all heard it", x.could(all, all), masts == 0 ? 65535 : 16);
            Edge.outside(x, "listened", AirClock.BAD, v -> x.could(v, 0), 0, all);
            Edge.outside(x, "heard", AirClock.BAD, v -> x.could(all, v), 0, all);
            Edge.outside(x, "listened and heard", AirClock.BAD, v -> x.could(v, v), 0, all);
        }
    }

    private static void whoHeardHadListened() {
        AirClock x = Edge.withMasts(3);
        for (int listened = 0; listened < 8; listened++) {
            for (int hearing = 0; hearing < 8; hearing++) {
                boolean among = (hearing & listened) == hearing;
                int due = !among ? AirClock.BAD : hearing == 0 ? 65535 : 0;
                Due.is("listened " + listened + ", heard " + hearing, x.could(listened, hearing), due);
            }
        }
    }

    private static void couldAtItsEnds() {
        AirClock x = Edge.withMasts(10);
        x.heard(0, 1023);
        x.heard(15, 512);
        Due.is("nobody listened", x.could(0, 0), 65535);
        Due.is("nobody heard", x.could(1023, 0), 65535 - 32769);
        Due.is("all heard", x.could(1023, 1023), 1);
        Due.is("the last alone heard", x.could(1023, 512), 32768);
        Due.is("the last alone listened", x.could(512, 512), 32769);
        Due.is("the first alone heard: nowhere", x.could(1023, 1), 0);
        Due.is("the first alone listened", x.could(1, 1), 1);
    }

    // ---- promise 32

    private static void countFromNoneToThree() {
        AirClock x = Edge.withMasts(10);
        Edge.outside(x, "count", AirClock.BAD, x::count, 0, 3);
        for (int mast = 0; mast < 10; mast++) {
            x.old(mast, 0, 1);
        }
        for (int house = 0; house < 6; house++) {
            x.house();
        }
        for (int sentence = 0; sentence < 24; sentence++) {
            x.ask(0, 1, 1);
        }
        int[] due = {10, 10, 6, 24};
        for (int what = 0; what <= 3; what++) {
            Due.is("count " + what + " of all that can be", x.count(what), due[what]);
        }
        Edge.outside(x, "count when full", AirClock.BAD, x::count, 0, 3);
    }

    // ---- promise 33

    private static long digestOf(List<Integer> row) {
        BigInteger h = BigInteger.valueOf(401);
        for (int v : row) {
            h = h.multiply(BigInteger.valueOf(31)).add(BigInteger.valueOf(v));
        }
        return h.longValue();
    }

    private static List<Integer> row(int... values) {
        List<Integer> row = new ArrayList<>();
        for (int v : values) {
            row.add(v);
        }
        return row;
    }

    private static void digestOfNothing() {
        List<Integer> due = row(0, 0, 0, 0, 3, 2000, 100, 10);
        due.addAll(row(new int[16]));
        due.addAll(row(0, 0, 0, 0));
        Due.is("digest of nothing", new AirClock().digest(), digestOf(due));
    }

    /** All that can be there, each at its greatest: the sum is far above what a long holds. */
    private static void digestWrapsAround() {
        AirClock x = Edge.crowd(10, 6, 2);
        List<Integer> due = row(10, 10, 6, 24, 6, 2000, 1000, 100);
        x.clock(1000, 100);
        for (int mast = 0; mast < 10; mast++) {
            x.bar(mast, 63);
            x.old(mast, 1000, 10);
            move(x, mast, 5, AirClock.NONE);
            due.addAll(row(63, 2, 2, 2, 2, 2, 2, 2, 2, 2, 1000, 10, 5, -1));
        }
        for (int house = 0; house < 6; house++) {
            x.house();
            x.price(house, 100000);
        }
        for (int sentence = 0; sentence < 24; sentence++) {
            x.ask(sentence % 6, 63, 100000);
            due.addAll(row(sentence % 6, 63, 100000));
        }
        due.addAll(row(100000, 100000, 100000, 100000, 100000, 100000));
        for (int place = 0; place < 16; place++) {
            x.heard(place, 1023);
            due.add(1023);
        }
        due.addAll(row(0, 1023, 1, 100000));
        Due.is("digest of all that can be", x.digest(), digestOf(due));
        Due.is("digest again", x.digest(), digestOf(due));
    }

    private static void digestOfOneMast() {
        AirClock x = Edge.withMasts(1);
        List<Integer> due = row(1, 0, 0, 0, 3, 2000, 100, 10);
        due.addAll(row(0, 0, 0, -1, -1));
        due.addAll(row(new int[16]));
        due.addAll(row(0, 0, 0, 0));
        Due.is("digest of one mast: no pairs, not old, off the air", x.digest(), digestOf(due));
    }

    private static void digestTellsEachChange() {
        AirClock x = Edge.withMasts(2);
        x.house();
        List<Long> seen = new ArrayList<>();
        note(seen, x, 0);
        note(seen, x, x.mast());
        note(seen, x, x.channels(4));
        note(seen, x, x.pair(0, 1, 1));
        note(seen, x, x.bar(1, 15));
        note(seen, x, x.limit(1999));
        note(seen, x, x.old(1, 1, 2));
        note(seen, x, x.clock(99, 11));
        note(seen, x, x.clock(99, 12));
        note(seen, x, x.house());
        note(seen, x, x.ask(1, 3, 9));
        note(seen, x, x.price(1, 1));
        note(seen, x, x.tell(1, 0, 0));
        note(seen, x, x.tell(1, 1, 0));
        note(seen, x, x.heard(15, 4));
    }

    private static void note(List<Long> seen, AirClock x, int answer) {
        Due.holds("the change is taken: " + answer, answer >= AirClock.NONE);
        long digest = x.digest();
        Due.holds("change " + seen.size() + " is seen", !seen.contains(digest));
        seen.add(digest);
    }

    // ---- "at most 512 calls"

    /** The dearest calls of an object that holds all it can, up to the last call that is promised. */
    private static void the512thCall() {
        AirClock x = Edge.crowd(10, 6, 1);
        for (int mast = 0; mast < 10; mast++) {
            x.old(mast, 1, 1);
            move(x, mast, mast % 6, (mast + 1) % 6);
        }
        int calls = 10 + 1 + 45 + 30;
        x.clock(50, 1);
        calls++;
        int paid = x.run(3);
        int most = x.most(9, 20, 1, 0);
        calls += 2;
        for (; calls <= 505; calls += 5) {
            Due.is("call " + calls + ": reason", x.reason(1023), 127);
            Due.is("call " + calls + ": most", x.most(9, 20, 1, 0), most);
            Due.is("call " + calls + ": weeks", x.weeks(10, AirClock.NONE), CAN_NOT_BE);
            Due.is("call " + calls + ": packing", x.packing(1023, 9), AirClock.NONE);
            Due.is("call " + calls + ": run", x.run(3), paid);
        }
        for (; calls < 511; calls++) {
            Due.is("call " + calls + ": old", x.old(0, 1, 1), AirClock.NO);
        }
        Due.is("the last call", x.mast(), AirClock.FULL);
    }
}
