/** Promises 1 to 11 at their edges: a method for each sentence of the document that names one. */
public final class PackingsEdgesTest {
    private PackingsEdgesTest() {
    }

    public static void main(String[] args) {
        theConstants();
        nothingIsThere();
        nothingThereYetIsRefused();
        objectsShareNothing();
        tenMastsAreFull();
        channelsFromOneToSix();
        channelsEndAtNLessOne();
        pairsFromNoneToTwo();
        pairsOfMastsThatAreThere();
        pairsAlikeAreBad();
        nextToEachOtherHasNoWrap();
        barsOfChannelsThatAreThere();
        barsOfMastsThatAreThere();
        barsStayWhenChannelsGo();
        limitFromOneTo2000();
        theNextTryAboveTheLimit();
        exactly2000Tries();
        foundWithTheLastTry();
        noneNeedsNoTry();
        setsOfMastsThatAreThere();
        packingOfAMastInTheSet();
        noPackingIsNone();
        packingIsTheFirstAsARow();
        itGoesBackToTheMastAhead();
        reasonOfWhatFitsIsNo();
        reasonHasTheFewestThenTheLeast();
        spareOfWhatDoesNotFitIsNo();
        spareAtItsEnds();
        whateverLimitIs();
        Due.end();
    }

    private static void theConstants() {
        Due.is("NONE", AirClock.NONE, -1);
        Due.is("BAD", AirClock.BAD, -2);
        Due.is("NO", AirClock.NO, -3);
        Due.is("FULL", AirClock.FULL, -4);
        Due.is("NOT_TOLD", AirClock.NOT_TOLD, -5);
    }

    // ---- promise 1

    private static void nothingIsThere() {
        AirClock x = new AirClock();
        for (int what = 0; what <= 3; what++) {
            Due.is("new: count", x.count(what), 0);
            Due.is("new: run", x.run(what), 0);
        }
        Due.is("new: fits none", x.fits(0), 1);
        Due.is("new: tries of none", x.tries(0), 0);
        Due.is("new: reason of none", x.reason(0), AirClock.NO);
        Due.is("new: spare of none", x.spare(0), 0);
        Due.is("new: best of none", x.best(0, AirClock.NONE), 0);
        Due.is("new: blocks of none", x.blocks(0), 0);
        Due.is("new: alone", x.alone(), AirClock.NONE);
        Due.is("new: weeks", x.weeks(1, AirClock.NONE), 0);
        Due.is("new: week 0", x.weeks(1, 0), AirClock.NONE);
        Due.is("new: could be everywhere", x.could(0, 0), 65535);
        Due.is("new: place 0", x.heard(0, 0), 0);
        Due.is("new: place 15", x.heard(15, 0), 0);
        Due.is("new: limit", x.limit(1), 2000);
        Due.is("new: channels", x.channels(1), 3);
        Due.is("new: the first mast", x.mast(), 0);
        Due.is("new: the first house", x.house(), 0);
        Due.is("new: no bars", x.bar(0, 0), 0);
        Due.is("new: no price", x.price(0, 0), 0);
        Due.is("new: off the air, old", x.tell(0, 0, 0), AirClock.NONE);
        Due.is("new: off the air, new", x.tell(0, 1, 0), AirClock.NONE);
        Due.is("new: the first sentence", x.ask(0, 1, 1), 0);
        x.mast();
        Due.is("new: no pair", x.pair(0, 1, 0), 0);
    }

    private static void nothingThereYetIsRefused() {
        AirClock x = new AirClock();
        long before = x.digest();
        Due.is("no mast yet: pair", x.pair(0, 1, 1), AirClock.BAD);
        Due.is("no mast yet: bar", x.bar(0, 0), AirClock.BAD);
        Due.is("no mast yet: fits", x.fits(1), AirClock.BAD);
        Due.is("no mast yet: tries", x.tries(1), AirClock.BAD);
        Due.is("no mast yet: packing", x.packing(0, 0), AirClock.BAD);
        Due.is("no mast yet: reason", x.reason(1), AirClock.BAD);
        Due.is("no mast yet: spare", x.spare(1), AirClock.BAD);
        Due.is("no mast yet: old", x.old(0, 0, 1), AirClock.BAD);
        Due.is("no mast yet: paid", x.paid(0), AirClock.BAD);
        Due.is("no mast yet: round", x.round(0), AirClock.BAD);
        Due.is("no mast yet: gain", x.gain(0, 0), -1000000);
        Due.is("no mast yet: most", x.most(0, 0, 1, 0), -1000000);
        Due.is("no house yet: ask", x.ask(0, 1, 1), AirClock.BAD);
        Due.is("no house yet: best of house 0", x.best(0, 0), -10);
        Due.is("no house yet: best of group 1", x.best(1, AirClock.NONE), -10);
        Due.is("no house yet: takes", x.takes(0), AirClock.BAD);
        Due.is("no house yet: price", x.price(0, 0), AirClock.BAD);
        Due.is("no house yet: blocks", x.blocks(1), AirClock.BAD);
        Due.is("no mast yet: tell", x.tell(0, 0, 0), -10);
        Due.is("no mast yet: tower", x.tower(0, 0), AirClock.BAD);
        Due.is("no mast yet: free", x.free(0), AirClock.BAD);
        Due.is("no mast yet: heard", x.heard(0, 1), AirClock.BAD);
        Due.is("no mast yet: could", x.could(1, 0), AirClock.BAD);
        Due.is("nothing there yet: nothing is changed", x.digest(), before);
    }

    private static void objectsShareNothing() {
        AirClock x = Edge.crowd(3, 1, 2);
        x.limit(7);
        x.old(0, 9, 9);
        x.clock(5, 1);
        x.house();
        x.ask(0, 1, 1);
        x.price(0, 3);
        x.tell(1, 0, 4);
        x.heard(2, 5);
        AirClock y = new AirClock();
        Due.is("another object is new", y.digest(), digestOfNew());
        y.mast();
        y.channels(6);
        Due.is("the first one keeps its channels", x.channels(1), 1);
        Due.is("the first one keeps its masts", x.count(0), 3);
    }

    private static long digestOfNew() {
        int[] row = new int[28];
        row[4] = 3;
        row[5] = 2000;
        row[6] = 100;
        row[7] = 10;
        long h = 401;
        for (int v : row) {
            h = 31 * h + v;
        }
        return h;
    }

    // ---- promise 2

    private static void tenMastsAreFull() {
        AirClock x = new AirClock();
        for (int i = 0; i < 10; i++) {
            Due.is("the set of the next mast is not there", x.fits(1 << i), AirClock.BAD);
            Due.is("mast " + i, x.mast(), i);
            Due.is("the set of that mast is there", x.fits(1 << i), 1);
        }
        Edge.refuses(x, "mast when ten are there", AirClock.FULL, v -> x.mast(), 1, 2, 3);
        Due.is("ten are counted", x.count(0), 10);
        Due.is("mast 9 is there", x.bar(9, 0), 0);
        Due.is("mast 10 is not", x.bar(10, 0), AirClock.BAD);
        Due.is("all ten", x.fits(1023), 1);
        Due.is("more than ten", x.fits(1024), AirClock.BAD);
    }

    // ---- promise 3

    private static void channelsFromOneToSix() {
        AirClock x = Edge.withMasts(1);
        Edge.outside(x, "channels at first", AirClock.BAD, x::channels, 1, 6);
        Due.is("channels are 3 still", x.channels(1), 3);
        Edge.outside(x, "channels when 1", AirClock.BAD, x::channels, 1, 6);
        Due.is("free on one channel", x.free(0), 1);
        Due.is("channels were 1", x.channels(6), 1);
        Edge.outside(x, "channels when 6", AirClock.BAD, x::channels, 1, 6);
        Due.is("free on six channels", x.free(0), 63);
        Due.is("channels were 6", x.channels(6), 6);
        Due.is("channels were 6 again", x.channels(2), 6);
    }

    private static void channelsEndAtNLessOne() {
        for (int n = 1; n <= 6; n++) {
            AirClock x = Edge.crowd(7, n, 1);
            int all = (1 << n) - 1;
            Due.is("as many as channels fit", x.fits(all), 1);
            Due.is("the last has channel n less 1", x.packing(all, n - 1), n - 1);
            Due.is("one more does not", x.reason(2 * all + 1), 2 * all + 1);
            Due.is("one more has no channel", x.packing(2 * all + 1, n), AirClock.NONE);
            Due.is("tries of the first", x.tries(1), 1);
            x.bar(0, all);
            Due.is("tries of one that is barred from all", x.tries(1), n);
        }
    }

    // ---- promise 4

    private static void pairsFromNoneToTwo() {
        AirClock x = Edge.withMasts(2);
        Edge.outside(x, "pair value", AirClock.BAD, v -> x.pair(0, 1, v), 0, 2);
        Due.is("pair was none", x.pair(0, 1, 2), 0);
        Edge.outside(x, "pair value when 2", AirClock.BAD, v -> x.pair(1, 0, v), 0, 2);
        Due.is("pair was 2", x.pair(1, 0, 1), 2);
        Due.is("pair was 1", x.pair(0, 1, 0), 1);
        Due.is("pair is none", x.pair(1, 0, 0), 0);
    }

    private static void pairsOfMastsThatAreThere() {
        AirClock x = Edge.withMasts(3);
        Due.is("the first and the last mast", x.pair(0, 2, 1), 0);
        Edge.outside(x, "pair of a mast with 0", AirClock.BAD, v -> x.pair(v, 0, 1), 1, 2);
        Edge.outside(x, "pair of 2 with a mast", AirClock.BAD, v -> x.pair(2, v, 1), 0, 1);
        Edge.refuses(x, "both are not there", AirClock.BAD, v -> x.pair(v, v + 1, 1), 3, -2, Edge.LOW);
        Due.is("the others have no pair", x.pair(0, 1, 0), 0);
        x.mast();
        Due.is("the next mast comes without a pair", x.pair(3, 0, 0), 0);
        AirClock y = Edge.withMasts(10);
        Due.is("pair of 9 and 8", y.pair(9, 8, 2), 0);
        Due.is("pair of 8 and 9", y.pair(8, 9, 2), 2);
        Edge.refuses(y, "pair with 10", AirClock.BAD, v -> y.pair(v, 10, 1), 0, 9);
    }

    private static void pairsAlikeAreBad() {
        AirClock x = Edge.withMasts(10);
        for (int v = 0; v <= 2; v++) {
            int value = v;
            Edge.refuses(x, "pair alike", AirClock.BAD, m -> x.pair(m, m, value), 0, 1, 9, 10, -1);
        }
        Due.is("each fits alone", x.fits(1023), 1);
    }

    private static void nextToEachOtherHasNoWrap() {
        for (int v = 0; v <= 2; v++) {
            AirClock x = Edge.withMasts(2);
            x.channels(6);
            x.pair(0, 1, v);
            for (int a = 0; a < 6; a++) {
                x.bar(0, 63 - (1 << a));
                for (int b = 0; b < 6; b++) {
                    x.bar(1, 63 - (1 << b));
                    boolean broken = v > 0 && Math.abs(a - b) < v;
                    Due.is("pair " + v + " on " + a + " and " + b, x.fits(3), broken ? 0 : 1);
                }
            }
        }
        AirClock y = Edge.crowd(2, 2, 2);
        Due.is("two channels are next to each other", y.fits(3), 0);
        y.channels(3);
        Due.is("0 and 2 are not", y.packing(3, 1), 2);
    }

    // ---- promise 5

    private static void barsOfChannelsThatAreThere() {
        for (int n = 1; n <= 6; n++) {
            AirClock x = Edge.withMasts(2);
            x.channels(n);
            int all = (1 << n) - 1;
            Edge.outside(x, "bars with " + n + " channels", AirClock.BAD, v -> x.bar(1, v), 0, all);
            Due.is("no bars at first", x.bar(1, all), 0);
            Edge.outside(x, "all bars with " + n + " channels", AirClock.BAD, v -> x.bar(1, v), 0, all);
            Due.is("barred from all", x.fits(2), 0);
            Due.is("nothing is free", x.free(1), 0);
            Due.is("bars were all", x.bar(1, 0), all);
            Due.is("bars are none", x.bar(1, 0), 0);
            Due.is("it fits again", x.fits(2), 1);
        }
    }

    private static void barsOfMastsThatAreThere() {
        AirClock x = Edge.withMasts(2);
        Edge.outside(x, "bars of a mast", AirClock.BAD, v -> x.bar(v, 5), 0, 1);
        Due.is("bars of the first", x.bar(0, 1), 0);
        Due.is("bars of the last", x.bar(1, 4), 0);
        Due.is("each its own", x.packing(3, 0), 1);
        Due.is("each its own, the last", x.packing(3, 1), 0);
        AirClock y = Edge.withMasts(10);
        Due.is("bars of mast 9", y.bar(9, 7), 0);
        Edge.refuses(y, "bars of mast 10", AirClock.BAD, v -> y.bar(10, v), 0, 7);
        Due.is("mast 9 is the reason", y.reason(1023), 512);
    }

    private static void barsStayWhenChannelsGo() {
        AirClock x = Edge.withMasts(1);
        x.channels(6);
        x.bar(0, 63 - 2);
        x.channels(2);
        Due.is("only channel 1", x.free(0), 2);
        Edge.refuses(x, "bars as they were are no CHANNELS now", AirClock.BAD, v -> x.bar(0, v), 61, 4);
        x.channels(1);
        Due.is("channel 1 has gone", x.fits(1), 0);
        Due.is("bars were as told", x.bar(0, 1), 61);
        x.channels(6);
        Due.is("channels that came have no bars", x.free(0), 62);
    }

    // ---- promise 6

    private static void limitFromOneTo2000() {
        AirClock x = Edge.crowd(2, 3, 1);
        Edge.outside(x, "limit", AirClock.BAD, x::limit, 1, 2000);
        Due.is("limit is 2000 still", x.limit(1), 2000);
        Edge.outside(x, "limit when 1", AirClock.BAD, x::limit, 1, 2000);
        Due.is("the first try is told", x.fits(1), 1);
        Due.is("the second is not", x.fits(3), AirClock.NOT_TOLD);
        Due.is("limit was 1", x.limit(2000), 1);
        Due.is("limit was 2000", x.limit(2000), 2000);
        Due.is("told again", x.fits(3), 1);
    }

    // ---- promises 7 and 8

    private static void theNextTryAboveTheLimit() {
        AirClock x = Edge.crowd(3, 2, 1);
        x.limit(10);
        Due.is("the tenth try is the last: fits", x.fits(7), 0);
        Due.is("the tenth try is the last: tries", x.tries(7), 10);
        x.limit(9);
        Due.is("the tenth try is above: fits", x.fits(7), AirClock.NOT_TOLD);
        Due.is("the tenth try is above: tries", x.tries(7), 9);
        x.limit(11);
        Due.is("an eleventh is not needed: fits", x.fits(7), 0);
        Due.is("an eleventh is not needed: tries", x.tries(7), 10);
    }

    /** With bars alone the tries are n (1 + b0 + b0 b1 + ..), b being how many channels a mast may have. */
    private static AirClock withOpen(int channels, int... open) {
        AirClock x = Edge.withMasts(open.length);
        x.channels(channels);
        for (int mast = 0; mast < open.length; mast++) {
            x.bar(mast, (1 << channels) - (1 << open[mast]));
        }
        return x;
    }

    private static void exactly2000Tries() {
        AirClock x = withOpen(5, 3, 2, 5, 2, 5, 0);
        Due.is("2000 tries are told", x.fits(63), 0);
        Due.is("2000 tries", x.tries(63), 2000);
        x.limit(1999);
        Due.is("2000 tries by 1999", x.fits(63), AirClock.NOT_TOLD);
        Due.is("1999 and no more", x.tries(63), 1999);
        AirClock y = withOpen(3, 2, 2, 3, 2, 2, 3, 3, 0);
        Due.is("2001 tries are not told", y.fits(255), AirClock.NOT_TOLD);
        Due.is("2000 and no more", y.tries(255), 2000);
        Due.is("but it has a reason", y.reason(255), 128);
    }

    private static void foundWithTheLastTry() {
        AirClock x = Edge.crowd(3, 3, 1);
        x.limit(6);
        Due.is("found with the sixth", x.fits(7), 1);
        Due.is("six tries", x.tries(7), 6);
        x.limit(5);
        Due.is("not found with five", x.fits(7), AirClock.NOT_TOLD);
        Due.is("five tries", x.tries(7), 5);
        Due.is("two of them are found with three", x.tries(5), 3);
    }

    private static void noneNeedsNoTry() {
        AirClock x = withOpen(3, 0, 0);
        x.limit(1);
        Due.is("none of them fit", x.fits(0), 1);
        Due.is("none of them: tries", x.tries(0), 0);
        Due.is("none of them: reason", x.reason(0), AirClock.NO);
        Due.is("none of them: nobody could be put to it", x.spare(0), 0);
        Due.is("none of them: nobody is in it", x.packing(0, 0), AirClock.BAD);
    }

    private static void setsOfMastsThatAreThere() {
        for (int masts : new int[] {0, 1, 5, 9, 10}) {
            AirClock x = Edge.withMasts(masts);
            int all = (1 << masts) - 1;
            Due.is("fits of all", x.fits(all), 1);
            Due.is("tries of all", x.tries(all), masts);
            Due.is("reason of all", x.reason(all), AirClock.NO);
            Due.is("spare of all", x.spare(all), 0);
            Edge.outside(x, "fits with " + masts, AirClock.BAD, x::fits, 0, all);
            Edge.outside(x, "tries with " + masts, AirClock.BAD, x::tries, 0, all);
            Edge.outside(x, "reason with " + masts, AirClock.BAD, x::reason, 0, all);
            Edge.outside(x, "spare with " + masts, AirClock.BAD, x::spare, 0, all);
            Edge.outside(x, "packing with " + masts, AirClock.BAD, v -> x.packing(v, 0), 0, all);
        }
    }

    // ---- promise 9

    private static void packingOfAMastInTheSet() {
        AirClock x = Edge.withMasts(4);
        Due.is("the first of the set", x.packing(14, 1), 0);
        Due.is("the last of the set", x.packing(14, 3), 0);
        Edge.outside(x, "packing of a mast", AirClock.BAD, v -> x.packing(14, v), 1, 3);
        Edge.refuses(x, "not in it", AirClock.BAD, v -> x.packing(1 << v, 3 - v), 0, 1, 2, 3);
        Edge.refuses(x, "nobody is in it", AirClock.BAD, v -> x.packing(0, v), -1, 0, 3, 4);
        AirClock y = Edge.withMasts(10);
        Due.is("mast 9", y.packing(512, 9), 0);
        Edge.refuses(y, "mast 9 is not in it", AirClock.BAD, v -> y.packing(v, 9), 511, 0);
    }

    private static void noPackingIsNone() {
        AirClock x = Edge.crowd(2, 1, 1);
        Due.is("no packing of both", x.packing(3, 0), AirClock.NONE);
        Due.is("no packing of both, the other", x.packing(3, 1), AirClock.NONE);
        Due.is("a packing of one", x.packing(2, 1), 0);
        Edge.refuses(x, "BAD is ahead of NONE", AirClock.BAD, v -> x.packing(3, v), -1, 2);
        x.bar(1, 1);
        Due.is("no packing of one that is barred", x.packing(2, 1), AirClock.NONE);
    }

    private static void packingIsTheFirstAsARow() {
        AirClock x = Edge.withMasts(3);
        x.pair(0, 2, 1);
        x.pair(1, 2, 1);
        x.bar(2, 6);
        int[] due = {1, 1, 0};
        for (int mast = 0; mast < 3; mast++) {
            Due.is("the last one's only channel decides, mast " + mast, x.packing(7, mast), due[mast]);
        }
        Due.is("without the last one", x.packing(3, 0), 0);
    }

    private static void itGoesBackToTheMastAhead() {
        AirClock x = Edge.withMasts(3);
        x.channels(2);
        x.pair(0, 2, 1);
        x.bar(2, 2);
        // 0 on 0; 1 on 0: two tries of 2; 1 on 1: two tries of 2; 0 on 1; 1 on 0; 2 on 0.
        Due.is("tries with going back", x.tries(7), 1 + 1 + 2 + 1 + 2 + 1 + 1 + 1);
        Due.is("mast 0 tries on", x.packing(7, 0), 1);
        Due.is("mast 1 begins anew", x.packing(7, 1), 0);
    }

    // ---- promise 10

    private static void reasonOfWhatFitsIsNo() {
        AirClock x = Edge.crowd(4, 3, 1);
        Due.is("three fit", x.reason(7), AirClock.NO);
        Due.is("four do not", x.reason(15), 15);
        x.channels(4);
        Due.is("four fit on four", x.reason(15), AirClock.NO);
        Edge.refuses(x, "BAD is ahead of NO", AirClock.BAD, x::reason, 16, -1);
    }

    private static void reasonHasTheFewestThenTheLeast() {
        AirClock x = Edge.withMasts(10);
        x.channels(1);
        x.pair(8, 9, 1);
        x.pair(0, 9, 1);
        Due.is("of like ones the least", x.reason(1023), 513);
        Due.is("of its own parts", x.reason(1022), 768);
        x.bar(9, 1);
        Due.is("one is fewer than two", x.reason(1023), 512);
        x.bar(7, 1);
        Due.is("of like single ones the least", x.reason(1023), 128);
        Due.is("the greatest single one", x.reason(512), 512);
        x.bar(0, 1);
        Due.is("the least single one", x.reason(1023), 1);
    }

    // ---- promise 11

    private static void spareOfWhatDoesNotFitIsNo() {
        AirClock x = Edge.crowd(3, 2, 1);
        Due.is("two fit, the third does not", x.spare(3), 0);
        Due.is("three do not fit", x.spare(7), AirClock.NO);
        Edge.refuses(x, "BAD is ahead of NO", AirClock.BAD, x::spare, 8, -1);
        x.bar(2, 3);
        Due.is("one that is barred does not fit", x.spare(4), AirClock.NO);
        Due.is("it could not be put to none", x.spare(0), 3);
    }

    private static void spareAtItsEnds() {
        AirClock x = Edge.withMasts(10);
        Due.is("all to none", x.spare(0), 1023);
        Due.is("none to all", x.spare(1023), 0);
        Due.is("the last to the others", x.spare(511), 512);
        Due.is("the first to the others", x.spare(1022), 1);
        AirClock y = Edge.crowd(3, 2, 1);
        Due.is("each by itself, not both", y.spare(1), 6);
    }

    private static void whateverLimitIs() {
        AirClock x = Edge.crowd(6, 6, 1);
        x.limit(1);
        Due.is("limit 1: not told", x.fits(63), AirClock.NOT_TOLD);
        Due.is("limit 1: packing", x.packing(63, 5), 5);
        Due.is("limit 1: it fits", x.reason(63), AirClock.NO);
        Due.is("limit 1: spare", x.spare(31), 32);
        x.channels(5);
        Due.is("limit 1: no packing", x.packing(63, 5), AirClock.NONE);
        Due.is("limit 1: reason", x.reason(63), 63);
        Due.is("limit 1: it does not fit", x.spare(63), AirClock.NO);
    }
}
