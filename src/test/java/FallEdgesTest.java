/** Promises 12 to 18 at their edges: a method for each sentence of the document that names one. */
public final class FallEdgesTest {
    private static final int BAD_GAIN = -1000000;

    private FallEdgesTest() {
    }

    public static void main(String[] args) {
        valuesFromNoneTo1000();
        weightsFromOneToTen();
        oldMastsThatAreThere();
        oldTwiceIsNo();
        allTenMayBeOld();
        startFromOneTo1000();
        stepFromOneTo100();
        startAbove50TimesStep();
        startAndStepAtFirst();
        runTellsFromNoneToThree();
        noRoundForNobody();
        roundsUntilThePriceIsNone();
        itEndsWhenAllAreOneOrTheOther();
        frozenInTheFirstRound();
        frozenInTheSecondRound();
        frozenInTheLastRound();
        anOfferLessThanTheValue();
        valuesAtTheirEnds();
        backIsSeenAtOnceByLaterNumbers();
        notToldIsFrozen();
        aRunFollowsWhatIsTold();
        onlyOldOnesAreLookedAt();
        paidAndRoundOfOldOnes();
        paidIsNoneWhenNotFrozen();
        theGreatestThatIsPaid();
        wordsFromNoneTo1000();
        gainOfOldOnes();
        gainByWordsNextToThePrice();
        gainChangesNothing();
        wordsOfMostEndAtW();
        eachDthWord();
        wByDCutAbove20();
        mostTellsGainOrWord();
        mostOfOldOnes();
        theFirstSuchWord();
        Due.end();
    }

    // ---- promise 12

    private static void valuesFromNoneTo1000() {
        AirClock x = Edge.withMasts(2);
        Edge.outside(x, "value", AirClock.BAD, v -> x.old(0, v, 1), 0, 1000);
        Due.is("a refused one is not old", x.count(1), 0);
        Due.is("a refused one is not paid", x.paid(0), AirClock.BAD);
        Due.is("value 0", x.old(0, 0, 1), 1);
        Due.is("value 1000", x.old(1, 1000, 1), 1);
        Due.is("value 0 goes back when the price is 0", x.round(0), 10);
        Due.is("value 1000 goes back at once", x.round(1), 0);
    }

    private static void weightsFromOneToTen() {
        AirClock x = Edge.withMasts(2);
        Edge.outside(x, "weight", AirClock.BAD, v -> x.old(0, 5, v), 1, 10);
        Due.is("a refused one has no round", x.round(0), AirClock.BAD);
        Due.is("a refused one has no gain", x.gain(0, 5), BAD_GAIN);
        Due.is("weight 1", x.old(0, 5, 1), 1);
        Due.is("weight 10", x.old(1, 5, 10), 1);
        x.bar(0, 7);
        x.bar(1, 7);
        Due.is("START by weight 1", x.paid(0), 100);
        Due.is("START by weight 10", x.paid(1), 1000);
    }

    private static void oldMastsThatAreThere() {
        AirClock x = Edge.withMasts(2);
        Edge.outside(x, "old mast", AirClock.BAD, v -> x.old(v, 5, 5), 0, 1);
        Due.is("the last mast", x.old(1, 5, 5), 1);
        Due.is("the first mast", x.old(0, 5, 5), 1);
        Edge.refuses(x, "the next mast is not there yet", AirClock.BAD, v -> x.old(v, 5, 5), 2);
        x.mast();
        Due.is("now it is", x.old(2, 5, 5), 1);
    }

    private static void oldTwiceIsNo() {
        AirClock x = Edge.withMasts(1);
        Due.is("old once", x.old(0, 30, 2), 1);
        Edge.refuses(x, "old twice", AirClock.NO, v -> x.old(0, v, 3), 0, 30, 1000);
        Edge.refuses(x, "old twice with the same weight", AirClock.NO, v -> x.old(0, 30, v), 1, 2, 10);
        Edge.outside(x, "BAD is ahead of NO: value", AirClock.BAD, v -> x.old(0, v, 2), 0, 1000);
        Edge.outside(x, "BAD is ahead of NO: weight", AirClock.BAD, v -> x.old(0, 30, v), 1, 10);
        Due.is("one is old", x.count(1), 1);
        Due.is("with its first value: 20 is less than 30", x.round(0), 9);
    }

    private static void allTenMayBeOld() {
        AirClock x = Edge.withMasts(10);
        for (int mast = 0; mast < 10; mast++) {
            Due.is("old " + mast, x.old(mast, 1000, 1), 1);
            Due.is("old ones", x.count(1), mast + 1);
        }
        Edge.refuses(x, "all are old", AirClock.NO, v -> x.old(v, 1, 1), 0, 9);
        Edge.refuses(x, "an eleventh", AirClock.BAD, v -> x.old(v, 1, 1), 10);
        Due.is("all go back", x.run(0), 1023);
        Due.is("in one round", x.run(2), 1);
    }

    // ---- promise 13

    private static AirClock oneOf(int value, int weight) {
        AirClock x = Edge.withMasts(1);
        x.old(0, value, weight);
        return x;
    }

    private static void startFromOneTo1000() {
        AirClock x = oneOf(0, 1);
        Edge.outside(x, "start", AirClock.BAD, v -> x.clock(v, 100), 1, 1000);
        Due.is("the clock is as at first", x.run(2), 11);
        Due.is("start 1", x.clock(1, 100), 1);
        Due.is("1, 0", x.run(2), 2);
        Due.is("start 1000", x.clock(1000, 100), 1);
        Due.is("1000, 900, .. 0", x.run(2), 11);
        Edge.outside(x, "start when 1000", AirClock.BAD, v -> x.clock(v, 100), 1, 1000);
    }

    private static void stepFromOneTo100() {
        AirClock x = oneOf(0, 1);
        Edge.outside(x, "step", AirClock.BAD, v -> x.clock(50, v), 1, 100);
        Due.is("the clock is as at first", x.run(2), 11);
        Due.is("step 1", x.clock(50, 1), 1);
        Due.is("50, 49, .. 0", x.run(2), 51);
        Due.is("step 100", x.clock(50, 100), 1);
        Due.is("50, 0", x.run(2), 2);
        Edge.refuses(x, "both are wrong", AirClock.BAD, v -> x.clock(v, v), 0, -1, Edge.LOW, Edge.HUGE);
        Due.is("the clock is as told last", x.run(2), 2);
    }

    private static void startAbove50TimesStep() {
        AirClock x = oneOf(0, 1);
        for (int step = 1; step <= 19; step++) {
            int by = step;
            Edge.refuses(x, "start above 50 times " + step, AirClock.BAD, v -> x.clock(v, by), 50 * step + 1, 1000);
            Due.is("start of 50 times " + step, x.clock(50 * step, step), 1);
            Due.is("50 prices and the last", x.run(2), 51);
        }
        Due.is("1000 is 50 times 20", x.clock(1000, 20), 1);
        Due.is("50 prices and the last by 20", x.run(2), 51);
        Due.is("1000 is not above 50 times 21", x.clock(1000, 21), 1);
        Due.is("48 prices and the last", x.run(2), 49);
    }

    private static void startAndStepAtFirst() {
        AirClock x = oneOf(91, 1);
        Due.is("100, 90", x.round(0), 1);
        x.clock(100, 10);
        Due.is("as told now", x.round(0), 1);
        AirClock y = oneOf(1, 1);
        y.bar(0, 7);
        Due.is("START is 100", y.paid(0), 100);
    }

    // ---- promise 14

    private static void runTellsFromNoneToThree() {
        AirClock x = Edge.crowd(2, 1, 1);
        x.old(0, 1000, 1);
        x.old(1, 0, 2);
        Edge.outside(x, "run", AirClock.BAD, x::run, 0, 3);
        int[] due = {1, 2, 1, 200};
        for (int what = 0; what <= 3; what++) {
            Due.is("run " + what, x.run(what), due[what]);
        }
    }

    private static void noRoundForNobody() {
        AirClock x = Edge.crowd(10, 1, 2);
        for (int what = 0; what <= 3; what++) {
            Due.is("nobody is old: run " + what, x.run(what), 0);
        }
        x.old(9, 0, 1);
        Due.is("one is old: rounds", x.run(2), 11);
        Due.is("one is old: back", x.run(0), 512);
    }

    private static void roundsUntilThePriceIsNone() {
        int[][] due = {{1, 1, 2}, {2, 1, 3}, {100, 100, 2}, {101, 100, 3}, {99, 100, 2}, {199, 100, 3},
            {200, 100, 3}, {201, 100, 4}, {1000, 100, 11}, {999, 100, 11}, {901, 100, 11}, {900, 100, 10}};
        AirClock x = oneOf(0, 10);
        for (int[] d : due) {
            Due.is("clock of " + d[0] + " by " + d[1], x.clock(d[0], d[1]), 1);
            Due.is("rounds of " + d[0] + " by " + d[1], x.run(2), d[2]);
            Due.is("back in the last", x.round(0), d[2] - 1);
        }
    }

    private static void itEndsWhenAllAreOneOrTheOther() {
        AirClock x = Edge.crowd(3, 1, 1);
        x.old(0, 95, 1);
        x.old(1, 0, 1);
        Due.is("one goes back in round 1", x.round(0), 1);
        Due.is("the other is frozen then", x.round(1), 1);
        Due.is("two rounds and no more", x.run(2), 2);
        x.old(2, 101, 1);
        Due.is("the third goes back in round 0", x.round(2), 0);
        Due.is("the others are frozen in round 1", x.run(1), 3);
        Due.is("two rounds still", x.run(2), 2);
    }

    private static void frozenInTheFirstRound() {
        AirClock x = oneOf(1000, 10);
        x.bar(0, 7);
        x.clock(1000, 20);
        Due.is("START by its WEIGHT", x.paid(0), 10000);
        Due.is("round 0", x.round(0), 0);
        x.clock(1, 1);
        Due.is("least START by its WEIGHT", x.paid(0), 10);
        x.bar(0, 3);
        Due.is("it fits now", x.paid(0), 0);
        Due.is("and goes back", x.run(0), 1);
        AirClock y = Edge.crowd(2, 1, 1);
        y.old(0, 101, 1);
        y.old(1, 1000, 3);
        Due.is("frozen behind one that went back in round 0", y.round(1), 0);
        Due.is("at START too", y.paid(1), 300);
    }

    private static void frozenInTheSecondRound() {
        AirClock x = Edge.crowd(3, 1, 1);
        x.old(0, 0, 1);
        x.old(1, 100, 1);
        x.old(2, 0, 3);
        Due.is("round 1: back", x.round(1), 1);
        Due.is("round 1: a later number is frozen", x.round(2), 1);
        Due.is("at the offer of round 0", x.paid(2), 300);
        Due.is("round 2: an earlier number is frozen", x.round(0), 2);
        Due.is("at the offer of round 1", x.paid(0), 90);
    }

    private static void frozenInTheLastRound() {
        AirClock x = Edge.crowd(2, 1, 1);
        x.old(0, 0, 1);
        x.old(1, 0, 4);
        x.clock(21, 10);
        Due.is("21, 11, 1, 0", x.round(1), 3);
        Due.is("frozen at 1", x.paid(1), 4);
        x.clock(20, 10);
        Due.is("20, 10, 0", x.round(1), 2);
        Due.is("frozen at 10", x.paid(1), 40);
        x.clock(7, 100);
        Due.is("7, 0", x.round(1), 1);
        Due.is("frozen at START", x.paid(1), 28);
        Due.is("the first is not paid", x.paid(0), 0);
    }

    private static void anOfferLessThanTheValue() {
        for (int weight = 1; weight <= 10; weight++) {
            AirClock x = Edge.withMasts(3);
            x.old(0, 50 * weight - 1, weight);
            x.old(1, 50 * weight, weight);
            x.old(2, 50 * weight + 1, weight);
            x.clock(50, 25);
            Due.is("above its value", x.round(0), 1);
            Due.is("like its value", x.round(1), 1);
            Due.is("less than its value", x.round(2), 0);
        }
    }

    private static void valuesAtTheirEnds() {
        AirClock x = Edge.withMasts(4);
        x.old(0, 0, 1);
        x.old(1, 1, 1);
        x.old(2, 2, 1);
        x.old(3, 1000, 10);
        x.clock(101, 10);
        Due.is("value 0: only when the price is 0", x.round(0), 11);
        Due.is("value 1: only when the price is 0", x.round(1), 11);
        Due.is("value 2: when the price is 1", x.round(2), 10);
        Due.is("1010 is not less than 1000, 910 is", x.round(3), 1);
    }

    private static void backIsSeenAtOnceByLaterNumbers() {
        AirClock x = Edge.crowd(2, 1, 1);
        x.old(0, 200, 1);
        x.old(1, 200, 1);
        Due.is("both would go back: the first does", x.run(0), 1);
        Due.is("the later one is frozen", x.run(1), 2);
        Due.is("in the same round", x.run(2), 1);
    }

    private static void notToldIsFrozen() {
        AirClock x = Edge.crowd(2, 2, 1);
        x.old(0, 1000, 1);
        x.old(1, 1000, 1);
        x.limit(3);
        Due.is("three tries: both go back", x.run(0), 3);
        x.limit(2);
        Due.is("two tries: not told", x.fits(3), AirClock.NOT_TOLD);
        Due.is("two tries: frozen", x.run(1), 2);
        x.limit(1);
        Due.is("one try: the first goes back", x.run(0), 1);
        x.bar(0, 1);
        Due.is("one try: the first is not told by itself", x.round(0), 0);
        Due.is("so it is frozen, and the other goes back", x.run(1), 1);
    }

    private static void aRunFollowsWhatIsTold() {
        AirClock x = Edge.crowd(2, 2, 1);
        x.old(0, 1000, 1);
        x.old(1, 1000, 1);
        Due.is("two channels: both go back", x.run(0), 3);
        x.channels(1);
        Due.is("one channel: one goes back", x.run(0), 1);
        x.pair(0, 1, 0);
        Due.is("no pair: both go back", x.run(0), 3);
        x.bar(0, 1);
        Due.is("a bar: the other goes back", x.run(0), 2);
        x.channels(2);
        Due.is("a channel more: both go back", x.run(0), 3);
        x.limit(1);
        Due.is("a limit of one try: the first is not told", x.run(1), 1);
    }

    private static void onlyOldOnesAreLookedAt() {
        AirClock x = Edge.crowd(10, 1, 2);
        x.old(5, 1000, 1);
        Due.is("those that are not old do not matter", x.run(0), 32);
        x.old(4, 1000, 1);
        Due.is("one that is old does", x.run(0), 16);
        Due.is("the later one is frozen", x.run(1), 32);
    }

    // ---- promises 15 and 16

    private static void paidAndRoundOfOldOnes() {
        AirClock x = Edge.withMasts(4);
        x.old(1, 1000, 1);
        x.old(2, 1000, 1);
        Edge.outside(x, "paid", AirClock.BAD, x::paid, 1, 2);
        Edge.outside(x, "round", AirClock.BAD, x::round, 1, 2);
        Edge.refuses(x, "paid: not there", AirClock.BAD, x::paid, 4, -1);
        Edge.refuses(x, "round: not there", AirClock.BAD, x::round, 4, -1);
        Due.is("paid of an old one", x.paid(1), 0);
        Due.is("round of an old one", x.round(2), 0);
        AirClock y = Edge.withMasts(10);
        y.old(9, 0, 1);
        Due.is("round of mast 9", y.round(9), 10);
        Edge.refuses(y, "round of mast 10", AirClock.BAD, y::round, 10);
    }

    private static void paidIsNoneWhenNotFrozen() {
        AirClock x = Edge.crowd(2, 1, 1);
        x.old(0, 95, 1);
        x.old(1, 0, 1);
        Due.is("frozen", x.paid(1), 100);
        x.pair(0, 1, 0);
        Due.is("not frozen any more", x.paid(1), 0);
        Due.is("back when the price is 0", x.round(1), 10);
        x.pair(0, 1, 1);
        Due.is("frozen again", x.paid(1), 100);
        Due.is("who is back is not paid", x.paid(0), 0);
    }

    private static void theGreatestThatIsPaid() {
        AirClock x = Edge.withMasts(10);
        x.clock(1000, 20);
        for (int mast = 0; mast < 10; mast++) {
            x.bar(mast, 7);
            x.old(mast, 1000, 10);
        }
        Due.is("ten are frozen", x.run(1), 1023);
        Due.is("ten by 10000", x.run(3), 100000);
        Due.is("each 10000", x.paid(9), 10000);
        Due.is("in one round", x.run(2), 1);
    }

    // ---- promise 17

    /** The first is frozen at 70 when it tells less than 71, and goes back when it tells more. */
    private static AirClock rivals(int value) {
        AirClock x = Edge.crowd(2, 1, 1);
        x.old(0, value, 1);
        x.old(1, 75, 1);
        return x;
    }

    private static void wordsFromNoneTo1000() {
        AirClock x = rivals(50);
        Edge.outside(x, "word", BAD_GAIN, v -> x.gain(0, v), 0, 1000);
        Due.is("word 0", x.gain(0, 0), 0);
        Due.is("word 1000", x.gain(0, 1000), -20);
    }

    private static void gainOfOldOnes() {
        AirClock x = Edge.withMasts(4);
        x.old(1, 5, 1);
        x.old(2, 5, 1);
        Edge.outside(x, "gain of a mast", BAD_GAIN, v -> x.gain(v, 5), 1, 2);
        Edge.refuses(x, "gain of a mast that is not there", BAD_GAIN, v -> x.gain(v, 5), 4, -1);
        Due.is("gain of an old one", x.gain(2, 5), 0);
        AirClock y = Edge.withMasts(10);
        y.old(9, 5, 1);
        Due.is("gain of mast 9", y.gain(9, 1000), 0);
        Edge.refuses(y, "gain of mast 10", BAD_GAIN, v -> y.gain(v, 0), 10);
    }

    private static void gainByWordsNextToThePrice() {
        AirClock x = rivals(50);
        Due.is("paid by its own word", x.paid(0), 70);
        Due.is("word 70: the offer 70 is not less", x.gain(0, 70), 0);
        Due.is("word 71: back in the round of the rival, ahead of it", x.gain(0, 71), -20);
        Due.is("word 75", x.gain(0, 75), -20);
        Due.is("its own word", x.gain(0, 50), 0);
        AirClock y = rivals(80);
        Due.is("goes back by its own word", y.round(0), 3);
        Due.is("word 70: frozen at 70", y.gain(0, 70), -10);
        Due.is("word 71: back", y.gain(0, 71), 0);
        Due.is("word 0: frozen at 70", y.gain(0, 0), -10);
        Due.is("word 1000: back", y.gain(0, 1000), 0);
        AirClock z = rivals(1000);
        Due.is("the greatest value: frozen at 70", z.gain(0, 0), -930);
        AirClock b = oneOf(0, 10);
        b.bar(0, 7);
        b.clock(1000, 20);
        Due.is("frozen by each word", b.gain(0, 1000), 0);
    }

    private static void gainChangesNothing() {
        AirClock x = rivals(50);
        long before = x.digest();
        x.gain(0, 1000);
        Due.is("gain: digest", x.digest(), before);
        x.gain(0, 1000);
        Due.is("gain: paid", x.paid(0), 70);
        x.gain(0, 1000);
        Due.is("gain: round", x.round(0), 4);
        x.most(0, 1000, 50, 1);
        Due.is("most: digest", x.digest(), before);
        x.most(0, 1000, 50, 1);
        Due.is("most: run", x.run(1), 1);
    }

    // ---- promise 18

    private static void wordsOfMostEndAtW() {
        AirClock x = rivals(80);
        Edge.outside(x, "w", BAD_GAIN, v -> x.most(0, v, 1000, 0), 0, 1000);
        Due.is("w 0: word 0 alone", x.most(0, 0, 1000, 0), -10);
        Due.is("w 999 by 1000: word 0 alone", x.most(0, 999, 1000, 0), -10);
        Due.is("w 1000 by 1000: word 1000 too", x.most(0, 1000, 1000, 0), 0);
        Due.is("w 1000 by 1000: the word", x.most(0, 1000, 1000, 1), 1000);
        Due.is("w 70 by 71", x.most(0, 70, 71, 1), 0);
        Due.is("w 71 by 71", x.most(0, 71, 71, 1), 71);
    }

    private static void eachDthWord() {
        AirClock x = rivals(80);
        Edge.outside(x, "d", BAD_GAIN, v -> x.most(0, 20, v, 0), 1, 1000);
        Due.is("d 1", x.most(0, 20, 1, 0), -10);
        Due.is("d 1000", x.most(0, 20, 1000, 0), -10);
        Due.is("70 is too little, 105 is a word", x.most(0, 140, 35, 1), 105);
        Due.is("72 is a word", x.most(0, 140, 36, 1), 72);
    }

    private static void wByDCutAbove20() {
        AirClock x = rivals(80);
        for (int d : new int[] {1, 2, 10, 46, 47}) {
            Due.is("20 words by " + d, x.most(0, 20 * d, d, 0) == BAD_GAIN ? 1 : 0, 0);
            Due.is("20 words, cut, by " + d, x.most(0, 21 * d - 1, d, 0) == BAD_GAIN ? 1 : 0, 0);
            Edge.refuses(x, "21 words by " + d, BAD_GAIN, v -> x.most(0, v, d, 0), 21 * d, 1000);
        }
        Due.is("1000 by 48 is 20, cut", x.most(0, 1000, 48, 1), 96);
        Due.is("1000 by 50 is 20", x.most(0, 1000, 50, 1), 100);
        AirClock y = Edge.crowd(2, 1, 1);
        y.old(0, 1000, 10);
        y.old(1, 970, 10);
        y.clock(100, 2);
        Due.is("the twentieth word is tried", y.most(0, 1000, 50, 1), 1000);
        Due.is("the nineteenth is too little", y.most(0, 999, 50, 0), 960 - 1000);
    }

    private static void mostTellsGainOrWord() {
        AirClock x = rivals(80);
        Edge.outside(x, "what", BAD_GAIN, v -> x.most(0, 100, 10, v), 0, 1);
        Due.is("the gain", x.most(0, 100, 10, 0), 0);
        Due.is("the word", x.most(0, 100, 10, 1), 80);
    }

    private static void mostOfOldOnes() {
        AirClock x = Edge.withMasts(4);
        x.old(1, 5, 1);
        x.old(2, 5, 1);
        Edge.outside(x, "most of a mast", BAD_GAIN, v -> x.most(v, 5, 1, 0), 1, 2);
        Edge.refuses(x, "most of a mast that is not there", BAD_GAIN, v -> x.most(v, 5, 1, 1), 4, -1);
        Edge.refuses(x, "all is wrong", BAD_GAIN, v -> x.most(v, v, v, v), Edge.LOW, Edge.HUGE, -1);
        Due.is("most of an old one", x.most(2, 5, 1, 0), 0);
    }

    private static void theFirstSuchWord() {
        AirClock x = rivals(50);
        Due.is("like gains: the first word", x.most(0, 1000, 50, 1), 0);
        Due.is("like gains: no gain", x.most(0, 1000, 50, 0), 0);
        AirClock y = rivals(80);
        Due.is("like losses: the first word", y.most(0, 60, 20, 1), 0);
        Due.is("like losses: the loss", y.most(0, 60, 20, 0), -10);
    }
}
