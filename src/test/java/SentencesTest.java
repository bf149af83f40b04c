/** Promises 19 to 25: houses, sentences, the best of them and groups that block. */
public final class SentencesTest {
    private static final int HUGE = Integer.MAX_VALUE;
    private static final int LOW = Integer.MIN_VALUE;
    private static final int BAD_TEN = -10;

    private SentencesTest() {
    }

    public static void main(String[] args) {
        houses();
        asks();
        bests();
        firstRowOfLikeOnes();
        oneSentenceOfEachHouse();
        takes();
        prices();
        blocks();
        pricesAboveWhatIsWon();
        Due.end();
    }

    private static AirClock withHouses(int many) {
        AirClock x = new AirClock();
        for (int i = 0; i < many; i++) {
            x.house();
        }
        return x;
    }

    private static AirClock three() {
        AirClock x = withHouses(3);
        x.ask(0, 3, 10);
        x.ask(1, 1, 7);
        x.ask(2, 2, 6);
        return x;
    }

    private static void houses() {
        AirClock x = new AirClock();
        for (int i = 0; i < 6; i++) {
            Due.is("house", x.house(), i);
        }
        Due.is("house above 6", x.house(), AirClock.FULL);
        Due.is("count(2) when full", x.count(2), 6);
        Due.is("the group of all", x.best(63, -1), 0);
    }

    private static void asks() {
        AirClock x = withHouses(2);
        Due.is("bands none", x.ask(0, 0, 5), AirClock.BAD);
        Due.is("bands above", x.ask(0, 64, 5), AirClock.BAD);
        Due.is("bands below", x.ask(0, -1, 5), AirClock.BAD);
        Due.is("sum 0", x.ask(0, 1, 0), AirClock.BAD);
        Due.is("sum above", x.ask(0, 1, 100001), AirClock.BAD);
        Due.is("house not there", x.ask(2, 1, 5), AirClock.BAD);
        Due.is("house below", x.ask(-1, 1, 5), AirClock.BAD);
        Due.is("huge", x.ask(HUGE, HUGE, HUGE), AirClock.BAD);
        for (int i = 0; i < 24; i++) {
            Due.is("ask", x.ask(i % 2, i % 2 == 0 ? 1 : 63, i % 2 == 0 ? 1 : 100000), i);
        }
        Due.is("ask above 24", x.ask(0, 1, 5), AirClock.FULL);
        Due.is("ask above 24, but BAD is first", x.ask(0, 0, 5), AirClock.BAD);
        Due.is("count(3) when full", x.count(3), 24);
        Due.is("the first of like ones", x.best(3, 1), 1);
    }

    private static void bests() {
        AirClock x = three();
        Due.is("sum of all", x.best(7, -1), 13);
        Due.is("house 0 has none", x.best(7, 0), AirClock.NONE);
        Due.is("house 1", x.best(7, 1), 1);
        Due.is("house 2", x.best(7, 2), 2);
        Due.is("two of them", x.best(3, -1), 10);
        Due.is("two of them: 0", x.best(3, 0), 0);
        Due.is("two of them: 1", x.best(3, 1), AirClock.NONE);
        Due.is("nobody", x.best(0, -1), 0);
        Due.is("what not in the group", x.best(3, 2), BAD_TEN);
        Due.is("what not there", x.best(7, 3), BAD_TEN);
        Due.is("what below", x.best(7, -2), BAD_TEN);
        Due.is("what by a shift of 32", x.best(7, 32), BAD_TEN);
        Due.is("group not there", x.best(8, -1), BAD_TEN);
        Due.is("group below", x.best(-1, -1), BAD_TEN);
        Due.is("huge", x.best(HUGE, HUGE), BAD_TEN);
        Due.is("lowest", x.best(LOW, LOW), BAD_TEN);
        x.ask(0, 4, 5);
        Due.is("a new sentence counts", x.best(7, -1), 18);
        Due.is("a new sentence is won", x.best(7, 0), 3);
        x.house();
        x.ask(3, 8, 100000);
        Due.is("a new house counts", x.best(15, -1), 100018);
        Due.is("not without it", x.best(7, -1), 18);
    }

    private static void firstRowOfLikeOnes() {
        AirClock x = withHouses(2);
        x.ask(0, 1, 5);
        x.ask(1, 1, 5);
        Due.is("none first", x.best(3, 0), AirClock.NONE);
        Due.is("so the other has it", x.best(3, 1), 1);
        AirClock y = withHouses(2);
        y.ask(1, 2, 4);
        y.ask(0, 2, 5);
        y.ask(0, 1, 5);
        y.ask(0, 4, 5);
        Due.is("by numbers", y.best(1, 0), 1);
        Due.is("by numbers among those that reach it", y.best(3, 0), 2);
        AirClock z = withHouses(3);
        z.ask(0, 3, 9);
        z.ask(1, 1, 4);
        z.ask(2, 2, 5);
        Due.is("two for one, none first", z.best(7, 0), AirClock.NONE);
        Due.is("house 2 is last", z.best(7, 2), 2);
    }

    private static void oneSentenceOfEachHouse() {
        AirClock x = withHouses(1);
        x.ask(0, 1, 5);
        x.ask(0, 2, 6);
        Due.is("not both", x.best(1, -1), 6);
        AirClock y = withHouses(6);
        for (int house = 0; house < 6; house++) {
            for (int i = 0; i < 4; i++) {
                y.ask(house, 1 << (house + i) % 6, 100000 - i);
            }
        }
        Due.is("all bands", y.best(63, -1), 600000);
        for (int house = 0; house < 6; house++) {
            Due.is("each its own", y.best(63, house), 4 * house);
        }
    }

    private static void takes() {
        AirClock x = three();
        Due.is("takes 0", x.takes(0), 0);
        Due.is("takes 1", x.takes(1), 4);
        Due.is("takes 2", x.takes(2), 3);
        for (int house : new int[] {3, -1, 32, HUGE, LOW}) {
            Due.is("takes wrong", x.takes(house), AirClock.BAD);
        }
        x.price(0, 50);
        Due.is("prices do not matter", x.takes(1), 4);
        Due.is("a house alone takes nothing", withHouses(1).takes(0), 0);
    }

    private static void prices() {
        AirClock x = withHouses(2);
        Due.is("price at first", x.price(1, 100000), 0);
        Due.is("price again", x.price(1, 0), 100000);
        Due.is("the other", x.price(0, 3), 0);
        Due.is("price above", x.price(0, 100001), AirClock.BAD);
        Due.is("price below", x.price(0, -1), AirClock.BAD);
        Due.is("house not there", x.price(2, 1), AirClock.BAD);
        Due.is("house below", x.price(-1, 1), AirClock.BAD);
        Due.is("huge", x.price(HUGE, HUGE), AirClock.BAD);
        Due.is("unchanged", x.price(0, 0), 3);
    }

    private static void blocks() {
        AirClock x = three();
        Due.is("who gets nothing blocks", x.blocks(1), 1);
        Due.is("nobody does not block", x.blocks(0), 0);
        Due.is("a winner does not", x.blocks(2), 0);
        Due.is("all do not", x.blocks(7), 0);
        x.price(1, 4);
        x.price(2, 3);
        Due.is("10 is more than 7", x.blocks(1), 1);
        Due.is("10 is not more than 7 and 3", x.blocks(3), 0);
        Due.is("the first is alone", x.alone(), 1);
        x.price(2, 6);
        Due.is("10 is not more than 10", x.blocks(1), 0);
        Due.is("nobody is alone", x.alone(), AirClock.NONE);
        x.price(0, 100000);
        x.price(2, 5);
        Due.is("who does not win does not pay", x.blocks(1), 1);
        for (int group : new int[] {8, -1, HUGE, LOW}) {
            Due.is("group wrong", x.blocks(group), AirClock.BAD);
        }
        AirClock y = withHouses(3);
        y.ask(0, 1, 10);
        y.ask(1, 1, 8);
        y.ask(2, 2, 3);
        y.ask(1, 3, 12);
        y.price(0, 8);
        Due.is("13 by 0 and 2", y.best(7, -1), 13);
        Due.is("12 is more than 8", y.alone(), 2);
        y.price(0, 9);
        y.price(2, 3);
        Due.is("12 is not more than 12", y.alone(), AirClock.NONE);
        y.price(0, 8);
        Due.is("12 is more than 11", y.blocks(2), 1);
        Due.is("with 2: 12 is more than 11", y.blocks(6), 1);
        Due.is("with 0: 12 is not more than 13", y.blocks(3), 0);
    }

    private static void pricesAboveWhatIsWon() {
        AirClock x = withHouses(2);
        x.ask(0, 1, 10);
        x.ask(1, 2, 5);
        x.ask(1, 1, 9);
        x.price(0, 3);
        x.price(1, 20);
        Due.is("each 0 at least", x.blocks(3), 0);
        Due.is("9 is not more than 23", x.blocks(2), 0);
        x.price(1, 0);
        Due.is("9 is more than 3 and 5", x.blocks(2), 1);
        Due.is("it is alone", x.alone(), 2);
        x.price(1, 6);
        Due.is("9 is not more than 9 and 0", x.blocks(2), 0);
    }
}
