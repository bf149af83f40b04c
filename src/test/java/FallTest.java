/** Promises 12 to 18: the clock. */
public final class FallTest {
    private static final int HUGE = Integer.MAX_VALUE;
    private static final int LOW = Integer.MIN_VALUE;
    private static final int BAD_GAIN = -1000000;

    private FallTest() {
    }

    public static void main(String[] args) {
        oldStations();
        clocks();
        whatARunTells();
        frozenInTheFirstRound();
        laterOnesSeeWhoWentBack();
        anOfferLikeTheValue();
        theLastRound();
        notToldIsNotFitting();
        onlyOldOnesCount();
        gains();
        lossesByOtherWords();
        wrongWords();
        Due.end();
    }

    /** Masts that all hear each other. */
    private static AirClock crowd(int masts, int channels) {
        AirClock x = new AirClock();
        x.channels(channels);
        for (int a = 0; a < masts; a++) {
            x.mast();
            for (int b = 0; b < a; b++) {
                x.pair(a, b, 1);
            }
        }
        return x;
    }

    private static void oldStations() {
        AirClock x = crowd(3, 3);
        Due.is("old", x.old(1, 0, 1), 1);
        Due.is("old greatest", x.old(0, 1000, 10), 1);
        Due.is("it is old", x.old(1, 5, 5), AirClock.NO);
        Due.is("it is old, but BAD is first", x.old(1, 1001, 5), AirClock.BAD);
        Due.is("value above", x.old(2, 1001, 1), AirClock.BAD);
        Due.is("value below", x.old(2, -1, 1), AirClock.BAD);
        Due.is("weight above", x.old(2, 1, 11), AirClock.BAD);
        Due.is("weight below", x.old(2, 1, 0), AirClock.BAD);
        Due.is("not there", x.old(3, 1, 1), AirClock.BAD);
        Due.is("below", x.old(-1, 1, 1), AirClock.BAD);
        Due.is("huge", x.old(HUGE, LOW, HUGE), AirClock.BAD);
        Due.is("two are old", x.count(1), 2);
    }

    private static void clocks() {
        AirClock x = crowd(1, 1);
        x.old(0, 1, 1);
        Due.is("clock", x.clock(1000, 100), 1);
        Due.is("rounds of 1000 by 100", x.run(2), 11);
        Due.is("clock of fifty", x.clock(1000, 20), 1);
        Due.is("rounds of fifty", x.run(2), 51);
        Due.is("fifty and one", x.clock(51, 1), AirClock.BAD);
        Due.is("1000 by 19", x.clock(1000, 19), AirClock.BAD);
        int[][] wrong = {{0, 1}, {1001, 100}, {-1, 5}, {10, 0}, {10, 101}, {10, -1}, {HUGE, HUGE}, {LOW, LOW}};
        for (int[] w : wrong) {
            Due.is("clock wrong", x.clock(w[0], w[1]), AirClock.BAD);
        }
        Due.is("unchanged", x.run(2), 51);
        Due.is("one step and the last", x.clock(1, 100), 1);
        Due.is("rounds of one step", x.run(2), 2);
    }

    private static void whatARunTells() {
        AirClock x = crowd(3, 1);
        x.old(0, 30, 1);
        x.old(1, 50, 1);
        x.old(2, 10, 2);
        x.clock(60, 10);
        Due.is("back", x.run(0), 2);
        Due.is("frozen", x.run(1), 5);
        Due.is("rounds", x.run(2), 4);
        Due.is("all paid", x.run(3), 140);
        Due.is("paid 0", x.paid(0), 40);
        Due.is("paid 1", x.paid(1), 0);
        Due.is("paid 2", x.paid(2), 100);
        Due.is("round 0", x.round(0), 3);
        Due.is("round 1", x.round(1), 2);
        Due.is("round 2", x.round(2), 2);
        for (int what : new int[] {4, -1, HUGE, LOW}) {
            Due.is("run wrong", x.run(what), AirClock.BAD);
        }
        x.mast();
        for (int mast : new int[] {3, 4, -1, 32, HUGE, LOW}) {
            Due.is("paid wrong", x.paid(mast), AirClock.BAD);
            Due.is("round wrong", x.round(mast), AirClock.BAD);
        }
        x.pair(0, 1, 0);
        Due.is("a run follows what is told later", x.run(0), 3);
        x.channels(3);
        Due.is("all go back", x.run(0), 7);
        Due.is("nobody is paid", x.run(3), 0);
        Due.is("nobody is frozen", x.run(1), 0);
    }

    private static void frozenInTheFirstRound() {
        AirClock x = crowd(2, 1);
        x.bar(0, 1);
        x.old(0, 1000, 3);
        x.old(1, 999, 1);
        x.clock(90, 40);
        Due.is("START by its weight", x.paid(0), 270);
        Due.is("in round 0", x.round(0), 0);
        Due.is("the other goes back in round 0", x.round(1), 0);
        Due.is("one round", x.run(2), 1);
        Due.is("all paid", x.run(3), 270);
    }

    private static void laterOnesSeeWhoWentBack() {
        AirClock x = crowd(2, 1);
        x.old(0, 100, 1);
        x.old(1, 100, 1);
        x.clock(100, 50);
        Due.is("by numbers", x.run(0), 1);
        Due.is("frozen in the same round", x.round(1), 1);
        Due.is("at the offer of the round ahead", x.paid(1), 100);
        AirClock y = crowd(2, 1);
        y.old(0, 10, 1);
        y.old(1, 100, 1);
        y.clock(100, 50);
        Due.is("the first waits a round", y.round(0), 2);
        Due.is("at the offer of that round ahead", y.paid(0), 50);
    }

    private static void anOfferLikeTheValue() {
        AirClock x = crowd(1, 1);
        x.old(0, 80, 2);
        x.clock(50, 10);
        Due.is("80 is not less than 80", x.round(0), 2);
        AirClock y = crowd(1, 1);
        y.old(0, 81, 2);
        y.clock(50, 10);
        Due.is("80 is less than 81", y.round(0), 1);
    }

    private static void theLastRound() {
        AirClock x = crowd(3, 2);
        x.old(0, 0, 1);
        x.old(1, 0, 10);
        x.old(2, 0, 5);
        x.clock(25, 10);
        Due.is("25, 15, 5, 0", x.run(2), 4);
        Due.is("price 0: by numbers", x.run(0), 3);
        Due.is("the third does not fit", x.run(1), 4);
        Due.is("5 by its weight", x.paid(2), 25);
        x.clock(20, 10);
        Due.is("20, 10, 0", x.run(2), 3);
        Due.is("10 by its weight", x.paid(2), 50);
    }

    private static void notToldIsNotFitting() {
        AirClock x = crowd(2, 2);
        x.old(0, 1000, 1);
        x.old(1, 5, 1);
        Due.is("told: both go back", x.run(0), 3);
        x.limit(2);
        Due.is("not told: frozen", x.run(1), 2);
        Due.is("at START", x.paid(1), 100);
        x.limit(3);
        Due.is("told with the last try", x.run(0), 3);
    }

    private static void onlyOldOnesCount() {
        AirClock x = crowd(3, 1);
        x.old(2, 7, 1);
        Due.is("others are not looked at", x.run(0), 4);
        Due.is("7 is above 0 only", x.round(2), 10);
        Due.is("eleven rounds", x.run(2), 11);
    }

    private static void gains() {
        AirClock x = crowd(3, 1);
        x.old(0, 30, 1);
        x.old(1, 50, 1);
        x.old(2, 10, 2);
        x.clock(60, 10);
        Due.is("gain by its own value", x.gain(0, 30), 0);
        Due.is("a loss", x.gain(0, 55), -10);
        Due.is("frozen at another price", x.gain(2, 90), 0);
        Due.is("the one that goes back, by a low word", x.gain(1, 0), -20);
        Due.is("unchanged behind it", x.run(3), 140);
        Due.is("no gain", x.most(0, 100, 10, 0), 0);
        Due.is("its first word", x.most(0, 100, 10, 1), 0);
        Due.is("no gain for the one that goes back", x.most(1, 60, 20, 0), 0);
        Due.is("its first word is beyond its rivals'", x.most(1, 60, 20, 1), 40);
        Due.is("most of one word", x.most(1, 0, 1, 0), -20);
        Due.is("most of one word: which", x.most(1, 0, 1, 1), 0);
    }

    private static void lossesByOtherWords() {
        AirClock x = new AirClock();
        x.mast();
        x.mast();
        x.channels(1);
        x.pair(0, 1, 1);
        x.old(0, 100, 1);
        x.old(1, 95, 1);
        x.clock(100, 10);
        Due.is("the first goes back in round 1", x.round(0), 1);
        Due.is("by 90 the second goes back, the first is frozen at 90", x.gain(0, 90), -10);
        Due.is("the least loss", x.most(0, 90, 80, 0), -10);
        AirClock y = new AirClock();
        y.mast();
        y.mast();
        y.channels(1);
        y.pair(0, 1, 1);
        y.old(0, 50, 1);
        y.old(1, 75, 1);
        y.clock(100, 10);
        Due.is("frozen at 70 with 50: 20", y.paid(0), 70);
        Due.is("by 75 it goes first: 0", y.gain(0, 75), -20);
        Due.is("by 70 it stays", y.gain(0, 70), 0);
        AirClock z = new AirClock();
        z.mast();
        z.mast();
        z.channels(1);
        z.pair(0, 1, 1);
        z.old(0, 95, 1);
        z.old(1, 75, 1);
        z.clock(100, 10);
        Due.is("it goes back", z.round(0), 1);
        Due.is("by 0 it is frozen at 70", z.gain(0, 0), 70 - 95);
        Due.is("the second: 100 less 75", z.gain(1, 75), 0);
        Due.is("the second by 100", z.gain(1, 100), 0);
        Due.is("the greatest is 0", z.most(0, 1000, 50, 0), 0);
        Due.is("first word that loses nothing", z.most(0, 1000, 50, 1), 100);
        Due.is("w itself is a word", z.most(0, 100, 100, 1), 100);
        Due.is("no word beyond w", z.most(0, 99, 100, 1), 0);
    }

    private static void wrongWords() {
        AirClock x = crowd(2, 1);
        x.old(0, 30, 1);
        for (int word : new int[] {-1, 1001, HUGE, LOW}) {
            Due.is("word wrong", x.gain(0, word), BAD_GAIN);
        }
        for (int mast : new int[] {1, 2, -1, 32, HUGE}) {
            Due.is("not old: gain", x.gain(mast, 5), BAD_GAIN);
            Due.is("not old: most", x.most(mast, 5, 5, 0), BAD_GAIN);
        }
        Due.is("word 0", x.gain(0, 0), 0);
        Due.is("word 1000", x.gain(0, 1000), 0);
        Due.is("twenty", x.most(0, 20, 1, 0), 0);
        Due.is("twenty, cut", x.most(0, 41, 2, 0), 0);
        Due.is("above twenty", x.most(0, 21, 1, 0), BAD_GAIN);
        Due.is("above twenty, cut", x.most(0, 42, 2, 1), BAD_GAIN);
        Due.is("w above", x.most(0, 1001, 1000, 0), BAD_GAIN);
        Due.is("w greatest", x.most(0, 1000, 1000, 0), 0);
        Due.is("w below", x.most(0, -1, 1, 0), BAD_GAIN);
        Due.is("d 0", x.most(0, 10, 0, 0), BAD_GAIN);
        Due.is("d below", x.most(0, 10, -1, 0), BAD_GAIN);
        Due.is("d above", x.most(0, 10, 1001, 0), BAD_GAIN);
        Due.is("what above", x.most(0, 10, 1, 2), BAD_GAIN);
        Due.is("what below", x.most(0, 10, 1, -1), BAD_GAIN);
        Due.is("huge", x.most(HUGE, HUGE, HUGE, HUGE), BAD_GAIN);
    }
}
