/** Promises 19 to 25 at their edges: a method for each sentence of the document that names one. */
public final class SentencesEdgesTest {
    private static final int BAD_TEN = -10;

    private SentencesEdgesTest() {
    }

    public static void main(String[] args) {
        sixHousesAreFull();
        housesThatAsk();
        bandsFromOneTo63();
        sumsFromOneTo100000();
        sentencesAreFullAt24();
        badIsAheadOfFull();
        groupsOfHousesThatAreThere();
        bestOfAHouseInTheGroup();
        bestOfNobody();
        bestWithoutSentences();
        noBandTwice();
        oneSentenceOfEachHouse();
        noneFirst();
        thenByNumbers();
        theGreatestSum();
        takesOfHouses();
        takesAtItsEnds();
        pricesFromNoneTo100000();
        pricesOfHouses();
        blocksOfGroups();
        moreThanAllThatIsPaid();
        eachNoneAtLeast();
        onlyHousesThatWinPay();
        aloneIsNone();
        aloneIsTheFirstGroup();
        aloneAtItsEnds();
        Due.end();
    }

    // ---- promise 19

    private static void sixHousesAreFull() {
        AirClock x = new AirClock();
        for (int i = 0; i < 6; i++) {
            Due.is("a group with the next house is not there", x.blocks(1 << i), AirClock.BAD);
            Due.is("house " + i, x.house(), i);
            Due.is("houses", x.count(2), i + 1);
            Due.is("a group with that house is there", x.blocks(1 << i), 0);
        }
        Edge.refuses(x, "house when six are there", AirClock.FULL, v -> x.house(), 1, 2, 3);
        Due.is("six are counted", x.count(2), 6);
        Due.is("house 5 is there", x.takes(5), 0);
        Due.is("house 6 is not", x.takes(6), AirClock.BAD);
    }

    // ---- promise 20

    private static void housesThatAsk() {
        AirClock x = Edge.withHouses(2);
        Edge.outside(x, "house that asks", AirClock.BAD, v -> x.ask(v, 1, 1), 0, 1);
        Due.is("no sentence is there", x.count(3), 0);
        Due.is("the first house", x.ask(0, 1, 1), 0);
        Due.is("the last house", x.ask(1, 1, 1), 1);
        Edge.refuses(x, "the next house is not there yet", AirClock.BAD, v -> x.ask(v, 1, 1), 2);
        x.house();
        Due.is("now it is", x.ask(2, 1, 1), 2);
    }

    private static void bandsFromOneTo63() {
        AirClock x = Edge.withHouses(1);
        Edge.outside(x, "bands", AirClock.BAD, v -> x.ask(0, v, 9), 1, 63);
        Due.is("no sentence is there", x.count(3), 0);
        Due.is("nothing to win", x.best(1, AirClock.NONE), 0);
        Due.is("band 0", x.ask(0, 1, 9), 0);
        Due.is("band 5", x.ask(0, 32, 9), 1);
        Due.is("all bands", x.ask(0, 63, 9), 2);
        Due.is("three sentences", x.count(3), 3);
    }

    private static void sumsFromOneTo100000() {
        AirClock x = Edge.withHouses(1);
        Edge.outside(x, "sum", AirClock.BAD, v -> x.ask(0, 1, v), 1, 100000);
        Due.is("no sentence is there", x.count(3), 0);
        Due.is("nothing to win", x.best(1, 0), AirClock.NONE);
        Due.is("sum 1", x.ask(0, 1, 1), 0);
        Due.is("the best is 1", x.best(1, AirClock.NONE), 1);
        Due.is("sum 100000", x.ask(0, 1, 100000), 1);
        Due.is("the best is 100000", x.best(1, AirClock.NONE), 100000);
    }

    private static void sentencesAreFullAt24() {
        AirClock x = Edge.withHouses(6);
        for (int i = 0; i < 24; i++) {
            Due.is("sentence " + i, x.ask(i % 6, 1 << i % 6, i + 1), i);
            Due.is("sentences", x.count(3), i + 1);
        }
        Edge.refuses(x, "ask when 24 are there", AirClock.FULL, v -> x.ask(v, 63, 100000), 0, 5);
        Due.is("24 are counted", x.count(3), 24);
        Due.is("the last one is there", x.best(63, 5), 23);
        Due.is("the refused ones are not", x.best(63, AirClock.NONE), 19 + 20 + 21 + 22 + 23 + 24);
        AirClock y = Edge.withHouses(1);
        for (int i = 0; i < 24; i++) {
            Due.is("all of one house", y.ask(0, 1, 24 - i), i);
        }
        Edge.refuses(y, "one house may have 24", AirClock.FULL, v -> y.ask(0, v, 1), 1, 63);
        Due.is("its greatest", y.best(1, 0), 0);
    }

    private static void badIsAheadOfFull() {
        AirClock x = Edge.withHouses(1);
        for (int i = 0; i < 24; i++) {
            x.ask(0, 1, 1);
        }
        Edge.outside(x, "full, but house", AirClock.BAD, v -> x.ask(v, 1, 1), 0, 0);
        Edge.outside(x, "full, but bands", AirClock.BAD, v -> x.ask(0, v, 1), 1, 63);
        Edge.outside(x, "full, but sum", AirClock.BAD, v -> x.ask(0, 1, v), 1, 100000);
        Edge.refuses(x, "full", AirClock.FULL, v -> x.ask(0, 1, v), 1, 100000);
    }

    // ---- promise 21

    private static void groupsOfHousesThatAreThere() {
        for (int houses = 0; houses <= 6; houses++) {
            AirClock x = Edge.withHouses(houses);
            int all = (1 << houses) - 1;
            for (int house = 0; house < houses; house++) {
                x.ask(house, 1 << house, 5);
            }
            Due.is("the group of all", x.best(all, AirClock.NONE), 5 * houses);
            Edge.outside(x, "group of " + houses, BAD_TEN, v -> x.best(v, AirClock.NONE), 0, all);
            Edge.outside(x, "group of " + houses + ", house 0", BAD_TEN, v -> x.best(v, 0), 1, all);
        }
    }

    private static void bestOfAHouseInTheGroup() {
        AirClock x = Edge.withHouses(4);
        for (int house = 0; house < 4; house++) {
            x.ask(house, 1 << house, 5);
        }
        Due.is("the first of the group", x.best(6, 1), 1);
        Due.is("the last of the group", x.best(6, 2), 2);
        Edge.refuses(x, "what is not in the group", BAD_TEN, v -> x.best(6, v), 0, 3, 4, -2, 33, 34);
        Edge.outside(x, "what with all", BAD_TEN, v -> x.best(15, v), AirClock.NONE, 3);
        Due.is("what is NONE: the sum", x.best(6, AirClock.NONE), 10);
    }

    private static void bestOfNobody() {
        AirClock x = Edge.withHouses(6);
        x.ask(0, 1, 5);
        Due.is("nobody: the sum", x.best(0, AirClock.NONE), 0);
        Edge.refuses(x, "nobody: no house is in it", BAD_TEN, v -> x.best(0, v), 0, 5, 6, -2);
    }

    private static void bestWithoutSentences() {
        AirClock x = Edge.withHouses(6);
        Due.is("no sentences: the sum", x.best(63, AirClock.NONE), 0);
        Due.is("no sentences: house 0", x.best(63, 0), AirClock.NONE);
        Due.is("no sentences: house 5", x.best(63, 5), AirClock.NONE);
        x.ask(2, 63, 1);
        Due.is("no sentence of its own", x.best(63, 5), AirClock.NONE);
        Due.is("one of its own", x.best(63, 2), 0);
        Due.is("not in the group, so not counted", x.best(63 - 4, AirClock.NONE), 0);
        AirClock y = Edge.withHouses(1);
        y.ask(0, 1, 5);
        Due.is("one house", y.best(1, AirClock.NONE), 5);
        y.house();
        Due.is("a house that comes without a sentence changes nothing", y.best(3, AirClock.NONE), 5);
        Due.is("nor what the other has", y.best(3, 0), 0);
    }

    private static void noBandTwice() {
        for (int band = 0; band < 6; band++) {
            AirClock x = Edge.withHouses(2);
            x.ask(0, 1 << band, 5);
            x.ask(1, 1 << band, 6);
            Due.is("band " + band + " once", x.best(3, AirClock.NONE), 6);
            x.ask(1, 63 - (1 << band), 3);
            Due.is("band " + band + " and all others", x.best(3, AirClock.NONE), 8);
            Due.is("who has it", x.best(3, 0), 0);
            x.ask(1, 63, 7);
            Due.is("all with band " + band, x.best(3, AirClock.NONE), 8);
        }
    }

    private static void oneSentenceOfEachHouse() {
        AirClock x = Edge.withHouses(2);
        for (int band = 0; band < 6; band++) {
            x.ask(0, 1 << band, 10 + band);
        }
        Due.is("one at most", x.best(1, AirClock.NONE), 15);
        Due.is("the greatest one", x.best(1, 0), 5);
        x.ask(1, 32, 2);
        Due.is("it may be the next one", x.best(3, AirClock.NONE), 16);
        Due.is("which one", x.best(3, 0), 4);
    }

    private static void noneFirst() {
        AirClock x = Edge.withHouses(3);
        for (int house = 0; house < 3; house++) {
            x.ask(house, 1, 5);
        }
        Due.is("like sums: none of house 0", x.best(7, 0), AirClock.NONE);
        Due.is("like sums: none of house 1", x.best(7, 1), AirClock.NONE);
        Due.is("like sums: house 2 has it", x.best(7, 2), 2);
        Due.is("two of them: house 1 has it", x.best(3, 1), 1);
        Due.is("one of them has it", x.best(1, 0), 0);
        x.ask(0, 1, 6);
        Due.is("one more is not like", x.best(7, 0), 3);
    }

    private static void thenByNumbers() {
        AirClock x = Edge.withHouses(2);
        x.ask(1, 1, 4);
        x.ask(0, 1, 5);
        x.ask(0, 2, 5);
        x.ask(0, 4, 5);
        x.ask(1, 2, 4);
        Due.is("alone: the first number", x.best(1, 0), 1);
        Due.is("with the other: the first number that reaches it", x.best(3, 0), 1);
        Due.is("the other takes what is left", x.best(3, 1), 4);
        Due.is("the other alone: its first number", x.best(2, 1), 0);
    }

    private static void theGreatestSum() {
        AirClock x = Edge.withHouses(6);
        for (int house = 0; house < 6; house++) {
            x.ask(house, 1 << 5 - house, 100000);
        }
        Due.is("six by 100000", x.best(63, AirClock.NONE), 600000);
        Due.is("what others have with it is what they have without it", x.takes(0), 0);
        x.price(5, 100000);
        Due.is("prices do not matter to the best", x.best(63, AirClock.NONE), 600000);
    }

    // ---- promise 22

    private static void takesOfHouses() {
        AirClock x = Edge.withHouses(3);
        x.ask(0, 1, 5);
        Edge.outside(x, "takes", AirClock.BAD, x::takes, 0, 2);
        Due.is("the first", x.takes(0), 0);
        Due.is("the last", x.takes(2), 0);
        AirClock y = Edge.withHouses(6);
        Edge.outside(y, "takes with six", AirClock.BAD, y::takes, 0, 5);
    }

    private static void takesAtItsEnds() {
        AirClock x = Edge.withHouses(2);
        Due.is("no sentences: nothing is taken", x.takes(0), 0);
        x.ask(0, 63, 100000);
        Due.is("others ask nothing", x.takes(0), 0);
        x.ask(1, 63, 99999);
        Due.is("all that the other asks", x.takes(0), 99999);
        Due.is("who wins nothing takes nothing", x.takes(1), 0);
        x.ask(1, 63, 100000);
        Due.is("like sums: house 1 wins", x.takes(1), 100000);
        Due.is("like sums: house 0 takes nothing", x.takes(0), 0);
        AirClock y = Edge.withHouses(6);
        y.ask(0, 63, 100000);
        for (int house = 1; house < 6; house++) {
            y.ask(house, 1 << house, 19999);
        }
        Due.is("five together", y.takes(0), 99995);
    }

    // ---- promise 23

    private static void pricesFromNoneTo100000() {
        AirClock x = Edge.withHouses(1);
        Edge.outside(x, "price", AirClock.BAD, v -> x.price(0, v), 0, 100000);
        Due.is("price was 0", x.price(0, 100000), 0);
        Edge.outside(x, "price when 100000", AirClock.BAD, v -> x.price(0, v), 0, 100000);
        Due.is("price was 100000", x.price(0, 0), 100000);
        Due.is("price is 0", x.price(0, 0), 0);
    }

    private static void pricesOfHouses() {
        AirClock x = Edge.withHouses(2);
        Edge.outside(x, "price of a house", AirClock.BAD, v -> x.price(v, 7), 0, 1);
        Due.is("price of the last", x.price(1, 7), 0);
        Due.is("price of the first is its own", x.price(0, 8), 0);
        Due.is("price of the last is its own", x.price(1, 7), 7);
        x.house();
        Due.is("the next house comes without a price", x.price(2, 0), 0);
        AirClock y = Edge.withHouses(6);
        Due.is("price of house 5", y.price(5, 1), 0);
        Edge.refuses(y, "price of house 6", AirClock.BAD, v -> y.price(6, v), 0, 1);
    }

    // ---- promise 24

    private static void blocksOfGroups() {
        for (int houses = 0; houses <= 6; houses++) {
            AirClock x = Edge.withHouses(houses);
            int all = (1 << houses) - 1;
            Due.is("nobody does not block", x.blocks(0), 0);
            Due.is("all do not block", x.blocks(all), 0);
            Edge.outside(x, "blocks of " + houses, AirClock.BAD, x::blocks, 0, all);
        }
    }

    /** House 0 wins 10; house 1 would have 7. */
    private static AirClock winnerAndLoser() {
        AirClock x = Edge.withHouses(2);
        x.ask(0, 1, 10);
        x.ask(1, 1, 7);
        return x;
    }

    private static void moreThanAllThatIsPaid() {
        AirClock x = winnerAndLoser();
        Due.is("7 is more than 0", x.blocks(2), 1);
        x.price(0, 6);
        Due.is("7 is more than 6", x.blocks(2), 1);
        x.price(0, 7);
        Due.is("7 is not more than 7", x.blocks(2), 0);
        x.price(0, 8);
        Due.is("7 is not more than 8", x.blocks(2), 0);
        Due.is("10 is not more than 8 and 2", x.blocks(1), 0);
        Due.is("nor are both", x.blocks(3), 0);
        Due.is("nobody", x.blocks(0), 0);
    }

    private static void eachNoneAtLeast() {
        AirClock x = Edge.withHouses(2);
        x.ask(0, 1, 10);
        x.ask(1, 2, 5);
        x.ask(1, 3, 12);
        Due.is("both win", x.best(3, AirClock.NONE), 15);
        x.price(1, 11);
        Due.is("12 is more than 11 and 0", x.blocks(2), 1);
        x.price(1, 12);
        Due.is("12 is not more than 12 and 0", x.blocks(2), 0);
        x.price(1, 5);
        Due.is("12 is more than 5 and 0", x.blocks(2), 1);
        x.price(1, 4);
        Due.is("12 is more than 4 and 1", x.blocks(2), 1);
        x.price(0, 7);
        Due.is("12 is not more than 11 and 1", x.blocks(2), 0);
        x.price(1, 100000);
        Due.is("a price above what is won: both do not block", x.blocks(3), 0);
        x.price(0, 100000);
        Due.is("the greatest prices", x.blocks(3), 0);
    }

    private static void onlyHousesThatWinPay() {
        AirClock x = winnerAndLoser();
        x.price(1, 100000);
        Due.is("who does not win does not pay", x.blocks(2), 1);
        Due.is("nor does its price count for others", x.alone(), 2);
        x.price(0, 7);
        Due.is("who wins pays", x.alone(), AirClock.NONE);
    }

    // ---- promise 25

    private static void aloneIsNone() {
        Due.is("no houses: alone", new AirClock().alone(), AirClock.NONE);
        Due.is("no sentences: alone", Edge.withHouses(6).alone(), AirClock.NONE);
        AirClock x = winnerAndLoser();
        Due.is("alone", x.alone(), 2);
        x.price(0, 6);
        Due.is("alone at 6", x.alone(), 2);
        x.price(0, 7);
        Due.is("not alone at 7", x.alone(), AirClock.NONE);
    }

    private static void aloneIsTheFirstGroup() {
        AirClock x = Edge.withHouses(3);
        x.ask(0, 1, 5);
        x.ask(1, 1, 6);
        x.ask(2, 1, 7);
        Due.is("1 is ahead of 2", x.alone(), 1);
        x.price(2, 5);
        Due.is("2 is next", x.alone(), 2);
        Due.is("1 with 2 is behind it", x.blocks(3), 1);
        x.price(2, 6);
        Due.is("nobody is left", x.alone(), AirClock.NONE);
    }

    private static void aloneAtItsEnds() {
        AirClock x = Edge.withHouses(6);
        x.ask(0, 63, 100);
        for (int house = 1; house < 6; house++) {
            x.ask(house, 1 << house, 18);
        }
        x.price(0, 72);
        Due.is("only all five others", x.alone(), 62);
        Due.is("four of them have 72", x.blocks(60), 0);
        x.price(0, 71);
        Due.is("four are enough", x.alone(), 30);
        x.price(0, 89);
        Due.is("90 is more than 89", x.alone(), 62);
        x.price(0, 90);
        Due.is("90 is not more than 90", x.alone(), AirClock.NONE);
        AirClock y = Edge.withHouses(6);
        y.ask(0, 1, 1);
        y.ask(5, 1, 100000);
        Due.is("the first group", y.alone(), 1);
    }
}
