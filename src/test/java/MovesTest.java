/** Promises 26 to 33: moves, towers, voices, counts and the digest. */
public final class MovesTest {
    private static final int HUGE = Integer.MAX_VALUE;
    private static final int LOW = Integer.MIN_VALUE;
    private static final int BAD_TEN = -10;
    private static final int CAN_NOT_BE = -5;

    private MovesTest() {
    }

    public static void main(String[] args) {
        tells();
        weeksOneByOne();
        weeksThatCanNotBe();
        oldOrNewOnesThatBreak();
        wrongWeeks();
        barsAreNotLookedAt();
        tenMasts();
        towers();
        freeChannels();
        places();
        voices();
        counts();
        digestOfANewOne();
        digestOfAll();
        digestTellsChanges();
        Due.end();
    }

    private static AirClock withMasts(int many) {
        AirClock x = new AirClock();
        for (int i = 0; i < many; i++) {
            x.mast();
        }
        return x;
    }

    private static void move(AirClock x, int mast, int from, int to) {
        x.tell(mast, 0, from);
        x.tell(mast, 1, to);
    }

    private static void tells() {
        AirClock x = withMasts(2);
        Due.is("old", x.tell(1, 0, 5), -1);
        Due.is("new", x.tell(1, 1, 0), -1);
        Due.is("old again", x.tell(1, 0, -1), 5);
        Due.is("off the air", x.tell(1, 0, 2), -1);
        Due.is("new again", x.tell(1, 1, 4), 0);
        Due.is("the other", x.tell(0, 0, 0), -1);
        Due.is("channel above", x.tell(0, 0, 6), BAD_TEN);
        Due.is("channel below", x.tell(0, 0, -2), BAD_TEN);
        Due.is("which above", x.tell(0, 2, 1), BAD_TEN);
        Due.is("which below", x.tell(0, -1, 1), BAD_TEN);
        Due.is("not there", x.tell(2, 0, 1), BAD_TEN);
        Due.is("below", x.tell(-1, 0, 1), BAD_TEN);
        Due.is("huge", x.tell(HUGE, HUGE, HUGE), BAD_TEN);
        x.channels(1);
        Due.is("a channel of 0 .. 5, whatever CHANNELS are", x.tell(0, 0, 5), 0);
    }

    private static void weeksOneByOne() {
        AirClock x = withMasts(3);
        x.pair(0, 1, 1);
        Due.is("nobody moves", x.weeks(1, -1), 0);
        Due.is("nobody moves: no week 0", x.weeks(1, 0), AirClock.NONE);
        move(x, 0, 0, 1);
        move(x, 1, 1, 2);
        move(x, 2, 3, 3);
        Due.is("two weeks", x.weeks(1, -1), 2);
        Due.is("the second first", x.weeks(1, 0), 2);
        Due.is("then the first", x.weeks(1, 1), 1);
        Due.is("not so many", x.weeks(1, 2), AirClock.NONE);
        Due.is("not so many by far", x.weeks(1, HUGE), AirClock.NONE);
        Due.is("one week", x.weeks(2, -1), 1);
        Due.is("both", x.weeks(2, 0), 3);
        Due.is("ten crews", x.weeks(10, 0), 3);
        AirClock y = withMasts(3);
        move(y, 0, 0, 1);
        move(y, 1, -1, 1);
        move(y, 2, 3, -1);
        Due.is("three by two", y.weeks(2, -1), 2);
        Due.is("the first row: one alone", y.weeks(2, 0), 1);
        Due.is("the first row: then two", y.weeks(2, 1), 6);
        Due.is("three by one: first", y.weeks(1, 0), 1);
        Due.is("three by one: second", y.weeks(1, 1), 2);
        Due.is("three by one: third", y.weeks(1, 2), 4);
    }

    private static void weeksThatCanNotBe() {
        AirClock x = withMasts(2);
        x.pair(0, 1, 1);
        move(x, 0, 0, 1);
        move(x, 1, 1, 0);
        Due.is("they change places", x.weeks(1, -1), CAN_NOT_BE);
        Due.is("week 0 of none", x.weeks(1, 0), CAN_NOT_BE);
        Due.is("week 9 of none", x.weeks(1, 9), CAN_NOT_BE);
        Due.is("both in one week", x.weeks(2, -1), 1);
        x.pair(0, 1, 2);
        Due.is("next to each other all along", x.weeks(2, -1), CAN_NOT_BE);
    }

    private static void oldOrNewOnesThatBreak() {
        AirClock x = withMasts(2);
        x.pair(0, 1, 1);
        move(x, 0, 2, 2);
        move(x, 1, 2, 2);
        Due.is("nobody moves, but they break", x.weeks(5, -1), CAN_NOT_BE);
        x.tell(1, 1, 3);
        Due.is("old ones break", x.weeks(5, -1), CAN_NOT_BE);
        move(x, 1, 3, 2);
        Due.is("new ones break", x.weeks(5, -1), CAN_NOT_BE);
        move(x, 1, 3, -1);
        Due.is("off the air it breaks nobody", x.weeks(5, 0), 2);
        move(x, 1, -1, -1);
        move(x, 0, -1, -1);
        Due.is("all are off the air", x.weeks(1, -1), 0);
    }

    private static void wrongWeeks() {
        AirClock x = withMasts(1);
        for (int k : new int[] {0, 11, -1, HUGE, LOW}) {
            Due.is("crews wrong", x.weeks(k, -1), BAD_TEN);
        }
        Due.is("what below", x.weeks(1, -2), BAD_TEN);
        Due.is("what lowest", x.weeks(1, LOW), BAD_TEN);
        Due.is("one crew", x.weeks(1, -1), 0);
        Due.is("ten crews", x.weeks(10, -1), 0);
    }

    private static void barsAreNotLookedAt() {
        AirClock x = withMasts(1);
        x.bar(0, 7);
        move(x, 0, 0, 2);
        Due.is("barred, but moved", x.weeks(1, 0), 1);
        Due.is("barred: a tower is not looked at", x.tower(0, 1), 0);
        Due.is("barred: nothing is free", x.free(0), 0);
    }

    private static void tenMasts() {
        AirClock x = withMasts(10);
        for (int mast = 0; mast < 10; mast++) {
            move(x, mast, mast % 6, (mast + 1) % 6);
        }
        Due.is("ten by one", x.weeks(1, -1), 10);
        Due.is("ten by one: the last week", x.weeks(1, 9), 512);
        Due.is("ten by one: no week more", x.weeks(1, 10), AirClock.NONE);
        Due.is("ten by three", x.weeks(3, -1), 4);
        Due.is("ten by three: one alone first", x.weeks(3, 0), 1);
        Due.is("ten by three: then three", x.weeks(3, 1), 14);
        Due.is("ten by ten", x.weeks(10, 0), 1023);
        for (int mast = 0; mast < 9; mast++) {
            x.pair(mast, mast + 1, 1);
        }
        Due.is("a chain by one", x.weeks(1, -1), 10);
        Due.is("a chain by one: the last is first", x.weeks(1, 0), 512);
        Due.is("a chain by one: the first is last", x.weeks(1, 9), 1);
    }

    private static void towers() {
        AirClock x = withMasts(4);
        x.pair(0, 1, 1);
        x.pair(0, 2, 2);
        x.tell(1, 1, 0);
        x.tell(2, 1, 2);
        x.tell(3, 1, 0);
        x.tell(0, 1, 1);
        x.tell(0, 0, 0);
        Due.is("on 0", x.tower(0, 0), 2);
        Due.is("on 1: next to it", x.tower(0, 1), 4);
        Due.is("on 2", x.tower(0, 2), 4);
        Due.is("not itself", x.tower(3, 0), 0);
        Due.is("the other way", x.tower(1, 1), 1);
        x.tell(1, 1, 2);
        Due.is("both", x.tower(0, 2), 6);
        x.tell(1, 1, -1);
        Due.is("off the air", x.tower(0, 0), 0);
        Due.is("not there", x.tower(4, 0), AirClock.BAD);
        Due.is("below", x.tower(-1, 0), AirClock.BAD);
        Due.is("channel below", x.tower(0, -1), AirClock.BAD);
        Due.is("channel that is not there", x.tower(0, 3), AirClock.BAD);
        Due.is("channel above all", x.tower(0, 6), AirClock.BAD);
        Due.is("huge", x.tower(HUGE, HUGE), AirClock.BAD);
        x.channels(6);
        Due.is("channel that is there now", x.tower(0, 3), 4);
        Due.is("the last channel", x.tower(0, 5), 0);
    }

    private static void freeChannels() {
        AirClock x = withMasts(3);
        x.pair(0, 1, 1);
        x.tell(1, 1, 0);
        x.tell(2, 1, 2);
        Due.is("not on 0", x.free(0), 6);
        Due.is("nobody hears it", x.free(2), 7);
        x.pair(0, 2, 2);
        Due.is("nothing is free", x.free(0), 0);
        x.channels(5);
        Due.is("the last one", x.free(0), 16);
        x.bar(0, 16);
        Due.is("but it may not have it", x.free(0), 0);
        x.tell(1, 0, 4);
        Due.is("old ones do not matter", x.free(1), 31);
        x.tell(2, 1, 5);
        Due.is("new ones beyond CHANNELS do", x.free(0), 14);
        for (int mast : new int[] {3, -1, HUGE, LOW}) {
            Due.is("free wrong", x.free(mast), AirClock.BAD);
        }
    }

    private static void places() {
        AirClock x = withMasts(3);
        Due.is("heard", x.heard(15, 7), 0);
        Due.is("heard again", x.heard(15, 0), 7);
        Due.is("heard once more", x.heard(15, 2), 0);
        Due.is("place above", x.heard(16, 1), AirClock.BAD);
        Due.is("place below", x.heard(-1, 1), AirClock.BAD);
        Due.is("masts not there", x.heard(0, 8), AirClock.BAD);
        Due.is("masts below", x.heard(0, -1), AirClock.BAD);
        Due.is("huge", x.heard(HUGE, HUGE), AirClock.BAD);
        Due.is("unchanged", x.heard(0, 0), 0);
        Due.is("unchanged 15", x.heard(15, 0), 2);
    }

    private static void voices() {
        AirClock x = withMasts(3);
        x.heard(3, 5);
        x.heard(4, 1);
        Due.is("both heard", x.could(7, 5), 8);
        Due.is("who did not listen does not matter", x.could(3, 1), 24);
        Due.is("nobody heard", x.could(7, 0), 65511);
        Due.is("nobody listened", x.could(0, 0), 65535);
        Due.is("nowhere", x.could(7, 2), 0);
        Due.is("heard, did not listen", x.could(1, 2), AirClock.BAD);
        Due.is("heard, did not listen either", x.could(3, 7), AirClock.BAD);
        Due.is("not there", x.could(8, 0), AirClock.BAD);
        Due.is("not there, heard", x.could(15, 8), AirClock.BAD);
        Due.is("below", x.could(-1, 0), AirClock.BAD);
        Due.is("heard below", x.could(7, -1), AirClock.BAD);
        Due.is("huge", x.could(HUGE, HUGE), AirClock.BAD);
        Due.is("lowest", x.could(LOW, LOW), AirClock.BAD);
    }

    private static void counts() {
        AirClock x = withMasts(4);
        x.old(1, 5, 5);
        x.old(3, 5, 5);
        x.house();
        x.ask(0, 1, 1);
        x.ask(0, 1, 1);
        x.ask(0, 1, 1);
        int[] due = {4, 2, 1, 3};
        for (int what = 0; what <= 3; what++) {
            Due.is("count", x.count(what), due[what]);
        }
        for (int what : new int[] {4, -1, HUGE, LOW}) {
            Due.is("count wrong", x.count(what), AirClock.BAD);
        }
    }

    private static long digestOf(long... row) {
        long h = 401;
        for (long v : row) {
            h = 31 * h + v;
        }
        return h;
    }

    private static void digestOfANewOne() {
        Due.is("digest of a new one", new AirClock().digest(), digestOf(
                0, 0, 0, 0, 3, 2000, 100, 10,
                0, 0, 0, 0, 0, 0, 0, 0, 0, 0, 0, 0, 0, 0, 0, 0,
                0, 0, 0, 0));
    }

    private static void digestOfAll() {
        AirClock x = withMasts(3);
        x.channels(1);
        x.pair(0, 1, 1);
        x.pair(1, 2, 2);
        x.bar(2, 1);
        x.limit(77);
        x.old(0, 30, 1);
        x.old(1, 50, 4);
        x.clock(60, 10);
        x.house();
        x.house();
        x.ask(1, 6, 700);
        x.price(1, 9);
        x.tell(2, 0, 5);
        x.tell(2, 1, 4);
        x.heard(1, 7);
        x.heard(15, 2);
        Due.is("digest of all", x.digest(), digestOf(
                3, 2, 2, 1, 1, 77, 60, 10,
                0, 1, 0, 30, 1, -1, -1,
                0, 1, 2, 50, 4, -1, -1,
                1, 0, 2, 0, 0, 5, 4,
                1, 6, 700,
                0, 9,
                0, 7, 0, 0, 0, 0, 0, 0, 0, 0, 0, 0, 0, 0, 0, 2,
                1, 2, 5, 120));
        Due.is("run(0)", x.run(0), 1);
        Due.is("run(2)", x.run(2), 5);
        Due.is("paid(1)", x.paid(1), 120);
    }

    private static void digestTellsChanges() {
        AirClock x = withMasts(2);
        long before = x.digest();
        x.pair(0, 0, 1);
        x.ask(0, 0, 0);
        x.clock(0, 0);
        x.tell(0, 5, 5);
        x.fits(3);
        x.packing(3, 1);
        x.reason(3);
        x.weeks(1, -1);
        Due.is("what is refused or only asked changes nothing", x.digest(), before);
        x.old(0, 5, 5);
        long old = x.digest();
        Due.holds("an old one changes it", old != before);
        x.gain(0, 1000);
        x.most(0, 1000, 50, 1);
        Due.is("words change nothing", x.digest(), old);
    }
}
