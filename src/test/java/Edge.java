import java.util.function.IntUnaryOperator;

/** Refused calls: what they answer, and that nothing is changed behind them. */
final class Edge {
    static final int HUGE = Integer.MAX_VALUE;
    static final int LOW = Integer.MIN_VALUE;
    // A program that shifts or cuts a number without looking at it takes these for small ones.
    private static final int[] WRAPS = {32, 64, 256, 65536};

    private Edge() {
    }

    /** Each of the wrong numbers gets the answer that is due, and the digest stays as it is. */
    static void refuses(AirClock x, String sentence, int due, IntUnaryOperator call, int... wrong) {
        for (int v : wrong) {
            long before = x.digest();
            Due.is(sentence + ": " + v, call.applyAsInt(v), due);
            Due.is(sentence + ": " + v + " changes nothing", x.digest(), before);
        }
    }

    /** The numbers next to the least and the greatest one, and ones far away, are refused. */
    static void outside(AirClock x, String sentence, int due, IntUnaryOperator call, int least, int greatest) {
        refuses(x, sentence, due, call, least - 1, greatest + 1, LOW, HUGE);
        for (int wrap : WRAPS) {
            if (least + wrap > greatest) {
                refuses(x, sentence, due, call, least + wrap);
            }
        }
    }

    static AirClock withMasts(int many) {
        AirClock x = new AirClock();
        for (int i = 0; i < many; i++) {
            x.mast();
        }
        return x;
    }

    static AirClock withHouses(int many) {
        AirClock x = new AirClock();
        for (int i = 0; i < many; i++) {
            x.house();
        }
        return x;
    }

    /** Masts that all hear each other by v. */
    static AirClock crowd(int masts, int channels, int v) {
        AirClock x = withMasts(masts);
        x.channels(channels);
        for (int a = 0; a < masts; a++) {
            for (int b = 0; b < a; b++) {
                x.pair(a, b, v);
            }
        }
        return x;
    }
}
