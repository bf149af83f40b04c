/** Promises 1 to 11: a new object, masts, channels, pairs, bars, the limit and packings. */
public final class PackingsTest {
    private static final int HUGE = Integer.MAX_VALUE;
    private static final int LOW = Integer.MIN_VALUE;

    private PackingsTest() {
    }

    public static void main(String[] args) {
        newObject();
        masts();
        channels();
        pairs();
        bars();
        limits();
        fitsAndTries();
        triesAtTheLimit();
        packings();
        packingWhateverLimit();
        reasons();
        spares();
        longSearchesEnd();
        shutFromBothSides();
        reasonOfTen();
        Due.end();
    }

    private static AirClock withMasts(int many) {
        AirClock x = new AirClock();
        for (int i = 0; i < many; i++) {
            x.mast();
        }
        return x;
    }

    private static AirClock clique(int many, int channels, int v) {
        AirClock x = withMasts(many);
        x.channels(channels);
        for (int a = 0; a < many; a++) {
            for (int b = a + 1; b < many; b++) {
                x.pair(a, b, v);
            }
        }
        return x;
    }

    private static void newObject() {
        AirClock x = new AirClock();
        for (int what = 0; what <= 3; what++) {
            Due.is("new count", x.count(what), 0);
            Due.is("new run", x.run(what), 0);
        }
        Due.is("new channels", x.channels(3), 3);
        Due.is("new limit", x.limit(2000), 2000);
        Due.is("new fits(0)", x.fits(0), 1);
        Due.is("new tries(0)", x.tries(0), 0);
        Due.is("new spare(0)", x.spare(0), 0);
        Due.is("new reason(0)", x.reason(0), AirClock.NO);
        Due.is("new alone()", x.alone(), AirClock.NONE);
        Due.is("new weeks", x.weeks(1, -1), 0);
        Due.is("new best", x.best(0, -1), 0);
        Due.is("new could", x.could(0, 0), 65535);
        for (int place = 0; place < 16; place++) {
            Due.is("new heard", x.heard(place, 0), 0);
        }
        x.mast();
        x.old(0, 1000, 1);
        Due.is("START is 100, STEP is 10: back at once", x.round(0), 0);
        AirClock y = withMasts(1);
        y.old(0, 1, 1);
        Due.is("START is 100, STEP is 10: rounds to price 0", y.run(2), 11);
    }

    private static void masts() {
        AirClock x = new AirClock();
        for (int i = 0; i < 10; i++) {
            Due.is("mast", x.mast(), i);
            Due.is("count(0)", x.count(0), i + 1);
        }
        Due.is("mast above 10", x.mast(), AirClock.FULL);
        Due.is("mast above 10 again", x.mast(), AirClock.FULL);
        Due.is("count(0) when full", x.count(0), 10);
        Due.is("all masts fit", x.fits(1023), 1);
    }

    private static void channels() {
        AirClock x = new AirClock();
        int was = 3;
        for (int n = 1; n <= 6; n++) {
            Due.is("channels", x.channels(n), was);
            was = n;
        }
        for (int n : new int[] {0, 7, -1, HUGE, LOW}) {
            Due.is("channels wrong", x.channels(n), AirClock.BAD);
        }
        Due.is("channels unchanged", x.channels(1), 6);
    }

    private static void pairs() {
        AirClock x = withMasts(3);
        Due.is("pair", x.pair(0, 2, 2), 0);
        Due.is("pair the other way", x.pair(2, 0, 1), 2);
        Due.is("pair of others", x.pair(0, 1, 1), 0);
        Due.is("pair again", x.pair(0, 2, 0), 1);
        Due.is("pair alike", x.pair(1, 1, 1), AirClock.BAD);
        Due.is("pair not there", x.pair(0, 3, 1), AirClock.BAD);
        Due.is("pair not there first", x.pair(3, 0, 1), AirClock.BAD);
        Due.is("pair below", x.pair(-1, 0, 1), AirClock.BAD);
        Due.is("pair below second", x.pair(0, -1, 1), AirClock.BAD);
        Due.is("pair 3", x.pair(0, 1, 3), AirClock.BAD);
        Due.is("pair -1", x.pair(0, 1, -1), AirClock.BAD);
        Due.is("pair huge", x.pair(HUGE, LOW, HUGE), AirClock.BAD);
        Due.is("pair unchanged", x.pair(0, 1, 0), 1);
    }

    private static void bars() {
        AirClock x = withMasts(2);
        Due.is("bar", x.bar(0, 5), 0);
        Due.is("bar again", x.bar(0, 7), 5);
        Due.is("barred from all", x.fits(1), 0);
        Due.is("the other is not", x.fits(2), 1);
        Due.is("bar back", x.bar(0, 3), 7);
        Due.is("the channel that is left", x.packing(1, 0), 2);
        Due.is("bar not there", x.bar(2, 1), AirClock.BAD);
        Due.is("bar below", x.bar(-1, 1), AirClock.BAD);
        Due.is("bar bits below", x.bar(0, -1), AirClock.BAD);
        Due.is("bar of a channel that is not there", x.bar(0, 8), AirClock.BAD);
        Due.is("bar bits above all", x.bar(0, 64), AirClock.BAD);
        Due.is("bar huge", x.bar(0, HUGE), AirClock.BAD);
        Due.is("bar unchanged", x.bar(0, 7), 3);
        x.channels(4);
        Due.is("a bar stays when channels come", x.packing(1, 0), 3);
        Due.is("bar with more channels", x.bar(0, 15), 7);
        x.channels(2);
        Due.is("a bar stays when channels go", x.bar(0, 0), 15);
    }

    private static void limits() {
        AirClock x = new AirClock();
        Due.is("limit", x.limit(1), 2000);
        Due.is("limit again", x.limit(2000), 1);
        for (int v : new int[] {0, 2001, -1, HUGE, LOW}) {
            Due.is("limit wrong", x.limit(v), AirClock.BAD);
        }
        Due.is("limit unchanged", x.limit(5), 2000);
    }

    private static void fitsAndTries() {
        AirClock x = withMasts(3);
        x.channels(2);
        x.pair(0, 1, 1);
        x.pair(1, 2, 1);
        Due.is("fits", x.fits(7), 1);
        Due.is("tries", x.tries(7), 4);
        x.pair(0, 2, 1);
        Due.is("fits no more", x.fits(7), 0);
        Due.is("tries of all", x.tries(7), 10);
        x.pair(0, 2, 2);
        x.channels(3);
        Due.is("next to each other is shut too", x.packing(7, 2), 2);
        Due.is("tries by 2", x.tries(7), 1 + 2 + 3);
        Due.is("tries of none", x.tries(0), 0);
        Due.is("tries are as many when asked again", x.tries(7), 6);
        for (int set : new int[] {8, 15, -1, HUGE, LOW}) {
            Due.is("fits wrong", x.fits(set), AirClock.BAD);
            Due.is("tries wrong", x.tries(set), AirClock.BAD);
        }
        x.bar(0, 7);
        Due.is("a barred channel is a try", x.tries(1), 3);
        Due.is("numbers decide who is first", x.tries(3), 3);
    }

    private static void triesAtTheLimit() {
        AirClock x = clique(3, 2, 1);
        for (int limit = 1; limit <= 9; limit++) {
            x.limit(limit);
            Due.is("fits under a low limit", x.fits(7), AirClock.NOT_TOLD);
            Due.is("tries under a low limit", x.tries(7), limit);
        }
        x.limit(10);
        Due.is("fits at the limit", x.fits(7), 0);
        Due.is("tries at the limit", x.tries(7), 10);
        x.limit(3);
        Due.is("found with the last try", x.fits(3), 1);
        x.limit(2);
        Due.is("not found with the last try", x.fits(3), AirClock.NOT_TOLD);
        Due.is("none of them needs no try", x.fits(0), 1);
        AirClock y = clique(7, 6, 1);
        Due.is("2000 tries are not enough", y.fits(127), AirClock.NOT_TOLD);
        Due.is("tries stop at 2000", y.tries(127), 2000);
    }

    private static void packings() {
        AirClock x = withMasts(4);
        x.channels(4);
        x.pair(0, 1, 2);
        x.pair(1, 2, 1);
        x.pair(0, 2, 1);
        x.pair(3, 0, 2);
        x.pair(3, 1, 1);
        int[] row = {0, 2, 1, 3};
        for (int mast = 0; mast < 4; mast++) {
            Due.is("packing", x.packing(15, mast), row[mast]);
        }
        Due.is("packing of a part", x.packing(10, 3), 1);
        Due.is("not in the set", x.packing(7, 3), AirClock.BAD);
        Due.is("not there", x.packing(7, 4), AirClock.BAD);
        Due.is("none in it", x.packing(0, 0), AirClock.BAD);
        Due.is("below", x.packing(7, -1), AirClock.BAD);
        Due.is("set not there", x.packing(16, 0), AirClock.BAD);
        Due.is("set below", x.packing(-1, 0), AirClock.BAD);
        Due.is("a shift of 32 is no mast", x.packing(15, 32), AirClock.BAD);
        Due.is("huge", x.packing(HUGE, HUGE), AirClock.BAD);
        x.channels(2);
        Due.is("no packing", x.packing(15, 0), AirClock.NONE);
        Due.is("no packing, BAD first", x.packing(7, 3), AirClock.BAD);
    }

    private static void packingWhateverLimit() {
        AirClock x = clique(6, 6, 1);
        x.limit(1);
        for (int mast = 0; mast < 6; mast++) {
            Due.is("packing above the limit", x.packing(63, mast), mast);
        }
        Due.is("reason above the limit", x.reason(63), AirClock.NO);
        Due.is("spare above the limit", x.spare(31), 32);
        x.channels(5);
        Due.is("reason above the limit, no packing", x.reason(63), 63);
        Due.is("spare above the limit, no packing", x.spare(63), AirClock.NO);
    }

    private static void reasons() {
        AirClock x = withMasts(6);
        x.channels(2);
        for (int a = 0; a < 4; a++) {
            for (int b = a + 1; b < 4; b++) {
                x.pair(a, b, 1);
            }
        }
        Due.is("the least of like ones", x.reason(15), 7);
        Due.is("only its parts", x.reason(14), 14);
        Due.is("it fits", x.reason(3), AirClock.NO);
        x.pair(4, 5, 2);
        Due.is("two before three", x.reason(63), 48);
        x.bar(3, 3);
        Due.is("one before two", x.reason(63), 8);
        Due.is("the one is not in it", x.reason(55), 48);
        for (int set : new int[] {64, -1, HUGE, LOW}) {
            Due.is("reason wrong", x.reason(set), AirClock.BAD);
        }
    }

    private static void spares() {
        AirClock x = withMasts(4);
        x.channels(2);
        x.pair(0, 1, 1);
        x.pair(1, 2, 1);
        x.pair(0, 2, 1);
        Due.is("each by itself", x.spare(1), 14);
        Due.is("only the other", x.spare(3), 8);
        Due.is("all by themselves", x.spare(0), 15);
        Due.is("it does not fit", x.spare(7), AirClock.NO);
        x.bar(3, 3);
        Due.is("nobody", x.spare(3), 0);
        Due.is("itself does not fit", x.spare(8), AirClock.NO);
        for (int set : new int[] {16, -1, HUGE, LOW}) {
            Due.is("spare wrong", x.spare(set), AirClock.BAD);
        }
    }

    /** Here the search as it is told would take tens of millions of tries. */
    private static void longSearchesEnd() {
        AirClock x = withMasts(10);
        x.channels(6);
        for (int a = 3; a < 10; a++) {
            for (int b = a + 1; b < 10; b++) {
                x.pair(a, b, 1);
            }
        }
        Due.is("seven on six channels", x.packing(1023, 0), AirClock.NONE);
        Due.is("seven on six channels: reason", x.reason(1023), 1016);
        Due.is("seven on six channels: spare", x.spare(1015), 0);
        Due.is("seven on six channels: less", x.spare(504), 7);
        AirClock y = withMasts(10);
        y.channels(6);
        for (int a = 0; a < 10; a++) {
            for (int b = a + 1; b < 10; b++) {
                int triangle = a < 6 ? a / 3 : 2;
                if (triangle == (b < 6 ? b / 3 : 2)) {
                    y.pair(a, b, 2);
                }
            }
        }
        Due.is("four that are far apart", y.packing(1023, 9), AirClock.NONE);
        Due.is("four that are far apart: reason", y.reason(1023), 960);
        y.channels(6);
        y.pair(8, 9, 0);
        Due.is("the last of the row", y.packing(1023, 9), 4);
        y.bar(9, 63);
        Due.is("the last one is barred", y.packing(1023, 0), AirClock.NONE);
        Due.is("the last one is the reason", y.reason(1023), 512);
    }

    private static void shutFromBothSides() {
        AirClock x = withMasts(3);
        x.channels(6);
        x.pair(0, 2, 2);
        x.pair(1, 2, 2);
        x.bar(0, 63 - 2);
        x.bar(1, 63 - 16);
        Due.is("1 and 4 shut all six", x.packing(7, 2), AirClock.NONE);
        Due.is("1 and 4 shut all six: reason", x.reason(7), 7);
        x.bar(1, 63 - 32);
        Due.is("1 and 5 leave one", x.packing(7, 2), 3);
    }

    /** A chain of ten on two channels whose ends are both held on channel 0. */
    private static void reasonOfTen() {
        AirClock x = withMasts(10);
        x.channels(2);
        for (int mast = 0; mast < 9; mast++) {
            x.pair(mast, mast + 1, 1);
        }
        x.bar(0, 2);
        x.bar(9, 2);
        Due.is("all ten are the reason", x.reason(1023), 1023);
        Due.is("nine of them fit", x.spare(511), 0);
        x.bar(9, 1);
        Due.is("the other end is on channel 1", x.packing(1023, 9), 1);
    }
}
