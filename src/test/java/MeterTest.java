/** Promises 6 to 9 and 12: insert, pay, offer, poke, powerCut. */
public final class MeterTest {
    private static final int MIN = Town.MIN;
    private static final int MAX = Town.MAX;
    private static final int NONE = Town.NONE;
    private static final int NOT_HERE = Town.NOT_HERE;
    private static final int NO_INDEX = Town.NO_INDEX;
    private static final int NO_COIN = Town.NO_COIN;
    private static final int CUT_OFF = Town.CUT_OFF;

    private MeterTest() {
    }

    public static void main(String[] args) {
        Checks.runAll(MeterTest.class);
    }

    // Promise 6: each answer of insert.

    static void promise6NoneForNoScroll() {
        Town town = Town.withScroll(5);
        int[] wrong = {-1, 1, 16, MIN, MAX};
        for (int s : wrong) {
            town.insert(s, 0, NONE);
        }
        town.count(1, 1);
    }

    static void promise6NoneForNoMeter() {
        Town town = Town.withScroll(5);
        int[] wrong = {-1, 8, MIN, MAX};
        for (int m : wrong) {
            town.insert(0, m, NONE);
        }
        town.count(1, 1);
    }

    static void promise6OneOnTheList() {
        Town town = Town.withScroll(5);
        town.pay(0, 0, 2, 0, 40);
        town.insert(0, 0, 1);
        town.insert(0, 0, 1);
        town.spent(0, 0, 2);
        town.count(1, 1);
        town.pay(0, 0, 3, 0, 60);
    }

    static void promise6TwoByNoKey() {
        Town town = Town.rich();
        town.buy(0, 5, 1, 255, 1, 10, 0);
        town.insert(0, 0, 2);
        town.count(1, 0);
        town.spent(0, 0, NONE);
        town.newWeek(3, 4, 2);
        town.newWeek(5, 6, 3);
        town.empty(0, 0);
        town.insert(0, 0, 2);
    }

    static void promise6ZeroByTheKeyOfTheWeekBefore() {
        Town town = Town.rich();
        town.buy(0, 5, 1, 255, 1, 10, 0);
        town.newWeek(3, 4, 2);
        town.empty(0, 0);
        town.insert(0, 0, 0);
    }

    static void promise6ThreeNotInTheSet() {
        Town town = Town.rich();
        town.buy(0, 5, 1, 254, 1, 10, 0);
        town.buy(0, 5, 1, 127, 1, 10, 1);
        town.empty(0, 0);
        town.empty(7, 0);
        town.insert(0, 0, 3);
        town.insert(1, 7, 3);
        town.insert(0, 7, 0);
        town.insert(1, 0, 0);
        town.count(1, 2);
    }

    static void promise6FourBehindTheEnd() {
        Town town = Town.rich();
        town.buy(0, 5, 1, 255, 1, 10, 0);
        town.empty(0, 0);
        town.today(11, true);
        town.insert(0, 0, 4);
        town.count(1, 0);
    }

    static void promise6ZeroOnTheDayOfTheEnd() {
        Town town = Town.rich();
        town.buy(0, 5, 1, 255, 1, 10, 0);
        town.empty(0, 0);
        town.today(10, true);
        town.insert(0, 0, 0);
    }

    static void promise6FiveBlockedAtTheMeter() {
        Town town = Town.withBlocked(255);
        town.empty(2, 0);
        town.insert(0, 2, 5);
        town.spent(0, 2, NONE);
        town.count(1, 2);
    }

    static void promise6ZeroBlockedAtTheOfficeOnly() {
        Town town = Town.rich();
        town.buy(0, 3, 10, 255, Town.SEED, 10, 0);
        for (int m = 0; m <= 2; m++) {
            town.empty(m, 0);
        }
        town.insert(0, 0, 0);
        town.insert(0, 1, 0);
        town.pay(0, 0, 3, 0, 60);
        town.pay(0, 1, 3, 0, 60);
        town.empty(0, 1);
        town.empty(1, 1);
        town.settle(0);
        town.count(2, 1);
        town.insert(0, 2, 0);
    }

    static void promise6OtherScrollsAreNotBlocked() {
        Town town = Town.withBlocked(255);
        town.buy(0, 3, 10, 255, 5, 10, 1);
        town.empty(2, 0);
        town.insert(0, 2, 5);
        town.insert(1, 2, 0);
    }

    static void promise6SixOnTheList() {
        Town town = Town.withFullList(255);
        town.insert(6, 0, 6);
        town.spent(6, 0, NONE);
        town.count(1, 6);
    }

    static void promise6ZeroWithFiveOnTheList() {
        Town town = Town.rich();
        town.empty(0, 0);
        for (int s = 0; s < 6; s++) {
            town.buy(0, 5, 1, 255, s, 10, s);
            town.insert(s, 0, 0);
            town.count(1, s + 1);
        }
    }

    static void promise6CutOff() {
        Town town = Town.rich();
        town.buy(0, 5, 1, 255, 1, 10, 0);
        town.empty(0, 0);
        town.powerCut(0, 2, true);
        town.insert(0, 0, CUT_OFF);
        town.count(1, 0);
        town.insert(0, 0, 0);
    }

    static void promise6ZeroIsOnTheListFromThenOn() {
        Town town = Town.rich();
        town.buy(0, 5, 1, 255, 1, 10, 0);
        town.empty(0, 0);
        town.pay(0, 0, 1, 0, NOT_HERE);
        town.insert(0, 0, 0);
        town.spent(0, 0, 0);
        town.count(1, 1);
        town.pay(0, 0, 1, 0, 2);
        town.empty(0, 1);
    }

    // Promise 6: where two answers would fit, the first of them.

    static void promise6NoneBeforeCutOff() {
        Town town = Town.withScroll(5);
        town.powerCut(0, 0, true);
        town.insert(1, 0, NONE);
        town.pay(0, 0, 1, 0, CUT_OFF);
    }

    static void promise6OneBeforeTwo() {
        Town town = Town.withScroll(5);
        town.newWeek(3, 4, 2);
        town.newWeek(5, 6, 3);
        town.empty(0, 1);
        town.insert(0, 0, 1);
    }

    static void promise6OneBeforeFour() {
        Town town = Town.withScroll(5);
        town.today(11, true);
        town.insert(0, 0, 1);
    }

    static void promise6OneBeforeFive() {
        Town town = Town.withBlocked(255);
        town.empty(0, 1);
        town.insert(0, 0, 1);
    }

    static void promise6OneBeforeSix() {
        Town town = Town.withFullList(255);
        town.insert(0, 0, 1);
        town.insert(5, 0, 1);
    }

    static void promise6OneBeforeCutOff() {
        Town town = Town.withScroll(5);
        town.powerCut(0, 0, true);
        town.insert(0, 0, 1);
        town.pay(0, 0, 1, 0, CUT_OFF);
    }

    static void promise6TwoBeforeThree() {
        Town town = Town.rich();
        town.buy(0, 5, 1, 2, 1, 10, 0);
        town.insert(0, 0, 2);
    }

    static void promise6TwoBeforeFour() {
        Town town = Town.rich();
        town.buy(0, 5, 1, 255, 1, 10, 0);
        town.today(11, true);
        town.insert(0, 0, 2);
    }

    static void promise6TwoBeforeFive() {
        Town town = Town.withBlocked(255);
        town.newWeek(3, 4, 2);
        town.newWeek(5, 6, 3);
        town.empty(2, 0);
        town.insert(0, 2, 2);
    }

    static void promise6TwoBeforeSix() {
        Town town = Town.withFullList(255);
        town.newWeek(3, 4, 2);
        town.buy(0, 5, 1, 255, 7, 10, 7);
        town.insert(7, 0, 2);
    }

    static void promise6TwoBeforeCutOff() {
        Town town = Town.rich();
        town.buy(0, 5, 1, 255, 1, 10, 0);
        town.powerCut(0, 0, true);
        town.insert(0, 0, 2);
        town.empty(0, 0);
        town.insert(0, 0, CUT_OFF);
    }

    static void promise6ThreeBeforeFour() {
        Town town = Town.rich();
        town.buy(0, 5, 1, 2, 1, 10, 0);
        town.empty(0, 0);
        town.today(11, true);
        town.insert(0, 0, 3);
    }

    static void promise6ThreeBeforeFive() {
        Town town = Town.withBlocked(3);
        town.empty(2, 0);
        town.insert(0, 2, 3);
    }

    static void promise6ThreeBeforeSix() {
        Town town = Town.withFullList(254);
        town.insert(6, 0, 3);
    }

    static void promise6ThreeBeforeCutOff() {
        Town town = Town.rich();
        town.buy(0, 5, 1, 2, 1, 10, 0);
        town.buy(0, 5, 1, 1, 1, 10, 1);
        town.empty(0, 0);
        town.powerCut(0, 1, true);
        town.insert(0, 0, 3);
        town.insert(1, 0, CUT_OFF);
    }

    static void promise6FourBeforeFive() {
        Town town = Town.withBlocked(255);
        town.empty(2, 0);
        town.today(11, true);
        town.insert(0, 2, 4);
    }

    static void promise6FourBeforeSix() {
        Town town = Town.withFullList(255);
        town.today(11, true);
        town.insert(6, 0, 4);
        town.count(1, 6);
    }

    static void promise6FourBeforeCutOff() {
        Town town = Town.rich();
        town.buy(0, 5, 1, 255, 1, 1, 0);
        town.buy(0, 5, 1, 255, 1, 2, 1);
        town.empty(0, 0);
        town.today(2, true);
        town.powerCut(0, 1, true);
        town.insert(0, 0, 4);
        town.insert(1, 0, CUT_OFF);
    }

    static void promise6FiveBeforeSix() {
        Town town = Town.withBlocked(255);
        town.empty(2, 0);
        for (int s = 1; s <= 6; s++) {
            town.buy(0, 5, 1, 255, s, 10, s);
            town.insert(s, 2, 0);
        }
        town.insert(0, 2, 5);
    }

    static void promise6FiveBeforeCutOff() {
        Town town = Town.withBlocked(255);
        town.buy(0, 5, 1, 255, 1, 10, 1);
        town.empty(2, 0);
        town.powerCut(2, 1, true);
        town.insert(0, 2, 5);
        town.insert(1, 2, CUT_OFF);
    }

    static void promise6SixBeforeCutOff() {
        Town town = Town.withFullList(255);
        town.powerCut(0, 1, true);
        town.insert(6, 0, 6);
        town.pay(0, 0, 1, 0, CUT_OFF);
    }

    // Promise 7: pay.

    static void promise7PaysTheCoinThatIsKAbove() {
        Town town = Town.withScroll(60);
        town.pay(0, 0, 1, 15, 20);
        town.spent(0, 0, 1);
        town.pay(0, 0, 3, 15, 60);
        town.spent(0, 0, 4);
        town.minutes(0, 15, 80);
        town.minutes(0, 14, 0);
    }

    static void promise7LeavesTheSameAsAnOffer() {
        byte[][] coins = Checks.coins(Town.SEED, 9);
        Town town = Town.withScroll(9);
        town.pay(0, 0, 2, 0, 40);
        town.pokeCoin(coins[5]);
        town.offer(0, 0, 5, 0, 60);
        town.pay(0, 0, 1, 0, 20);
        town.pokeCoin(coins[7]);
        town.offer(0, 0, 7, 0, 20);
        town.pay(0, 0, 2, 0, 40);
        town.spent(0, 0, 9);
        town.minutes(0, 0, 180);
    }

    static void promise7LeavesTheBuffer() {
        Town town = Town.withScroll(5);
        town.pokeCoin(Checks.coins(Town.SEED, 5)[3]);
        town.pay(0, 0, 2, 0, 40);
        town.offer(0, 0, 3, 0, 20);
    }

    static void promise7NoneForNoScrollMeterOrPlate() {
        Town town = Town.withScroll(5);
        int[] wrong = {-1, 16, MIN, MAX};
        for (int x : wrong) {
            town.pay(x, 0, 1, 0, NONE);
            town.pay(0, x, 1, 0, NONE);
            town.pay(0, 0, 1, x, NONE);
        }
        town.pay(1, 0, 1, 0, NONE);
        town.pay(0, 8, 1, 0, NONE);
        town.spent(0, 0, 0);
    }

    static void promise7KBelow1() {
        Town town = Town.withScroll(60);
        town.pay(0, 0, 10, 0, 200);
        town.pay(0, 0, 0, 0, NONE);
        town.pay(0, 0, -1, 0, NONE);
        town.pay(0, 0, MIN, 0, NONE);
        town.spent(0, 0, 10);
        town.minutes(0, 0, 200);
    }

    static void promise7KOf1() {
        Town town = Town.withScroll(60);
        town.pay(0, 0, 1, 0, 20);
        town.spent(0, 0, 1);
    }

    static void promise7KOf50() {
        Town town = Town.withScroll(60);
        town.pay(0, 0, 50, 0, 1000);
        town.spent(0, 0, 50);
    }

    static void promise7KAbove50() {
        Town town = Town.withScroll(60);
        town.pay(0, 0, 51, 0, NONE);
        town.pay(0, 0, 60, 0, NONE);
        town.pay(0, 0, MAX, 0, NONE);
        town.pay(0, 0, 5, 0, 100);
        // Five and these come to the lowest number there is.
        town.pay(0, 0, MAX - 4, 0, NONE);
        town.spent(0, 0, 5);
    }

    static void promise7TheLastCoin() {
        Town town = Town.withScroll(60);
        town.pay(0, 0, 50, 0, 1000);
        town.pay(0, 0, 10, 0, 200);
        town.spent(0, 0, 60);
        Town small = Town.withScroll(5);
        small.pay(0, 0, 5, 0, 100);
        small.spent(0, 0, 5);
        Town least = Town.withScroll(1);
        least.pay(0, 0, 1, 0, 20);
    }

    static void promise7BeyondTheLastCoin() {
        Town town = Town.withScroll(60);
        town.pay(0, 0, 50, 0, 1000);
        town.pay(0, 0, 11, 0, NO_INDEX);
        town.spent(0, 0, 50);
        town.pay(0, 0, 10, 0, 200);
        town.pay(0, 0, 1, 0, NO_INDEX);
        Town small = Town.withScroll(5);
        small.pay(0, 0, 6, 0, NO_INDEX);
        small.pay(0, 0, 50, 0, NO_INDEX);
        small.spent(0, 0, 0);
    }

    static void promise7NotHereWhenNotOnTheList() {
        Town town = Town.withScroll(5);
        town.empty(1, 0);
        town.pay(0, 1, 1, 0, NOT_HERE);
        town.minutes(1, 0, 0);
    }

    static void promise7NotHereBehindTheEnd() {
        Town town = Town.withScroll(5);
        town.today(11, true);
        town.pay(0, 0, 1, 0, NOT_HERE);
        town.spent(0, 0, 0);
    }

    static void promise7OnTheDayOfTheEnd() {
        Town town = Town.withScroll(5);
        town.today(10, true);
        town.pay(0, 0, 1, 0, 20);
    }

    static void promise7ABlockedScrollOnTheListPays() {
        Town town = Town.rich();
        town.buy(0, 5, 10, 255, Town.SEED, 10, 0);
        town.enter(0, 0);
        town.enter(0, 1);
        town.pay(0, 0, 5, 0, 100);
        town.pay(0, 1, 2, 0, 40);
        town.empty(0, 1);
        town.empty(1, 1);
        town.settle(0);
        town.empty(1, 1);
        town.count(2, 1);
        town.pay(0, 1, 1, 0, 20);
    }

    static void promise7CutOff() {
        Town town = Town.withScroll(5);
        town.powerCut(0, 2, true);
        town.pay(0, 0, 5, 0, CUT_OFF);
        town.spent(0, 0, 0);
        town.pay(0, 0, 5, 0, 100);
    }

    static void promise7NoneBeforeNotHere() {
        Town town = Town.withScroll(5);
        town.pay(0, 1, 0, 0, NONE);
        town.pay(0, 1, 51, 0, NONE);
        town.pay(0, 1, 1, 16, NONE);
        town.today(11, true);
        town.pay(0, 0, 51, 0, NONE);
    }

    static void promise7NoneBeforeNoIndex() {
        Town town = Town.withScroll(5);
        town.pay(0, 0, 51, 0, NONE);
        town.pay(0, 0, 6, 16, NONE);
    }

    static void promise7NotHereBeforeNoIndex() {
        Town town = Town.withScroll(5);
        town.pay(0, 1, 6, 0, NOT_HERE);
        town.today(11, true);
        town.pay(0, 0, 6, 0, NOT_HERE);
    }

    static void promise7RefusalsBeforeCutOff() {
        Town town = Town.withScroll(5);
        town.powerCut(0, 0, true);
        town.powerCut(1, 0, true);
        town.pay(0, 0, 51, 0, NONE);
        town.pay(0, 1, 1, 0, NOT_HERE);
        town.pay(0, 0, 6, 0, NO_INDEX);
        town.pay(0, 0, 1, 0, CUT_OFF);
        town.pay(0, 0, 1, 0, 20);
    }

    // Promise 8: offer.

    static void promise8AGoodCoin() {
        byte[][] coins = Checks.coins(Town.SEED, 9);
        Town town = Town.withScroll(9);
        town.pokeCoin(coins[2]);
        town.offer(0, 0, 2, 3, 40);
        town.minutes(0, 3, 40);
        town.spent(0, 0, 2);
        town.pokeCoin(coins[9]);
        town.offer(0, 0, 9, 3, 140);
        town.minutes(0, 3, 180);
        town.spent(0, 0, 9);
    }

    static void promise8TheSameCoinAtAnotherMeter() {
        Town town = Town.withScroll(9);
        town.enter(0, 7);
        town.pokeCoin(Checks.coins(Town.SEED, 9)[2]);
        town.offer(0, 0, 2, 3, 40);
        town.offer(0, 7, 2, 3, 40);
        town.spent(0, 7, 2);
        town.minutes(7, 3, 40);
        town.minutes(0, 3, 40);
    }

    static void promise8TheSameCoinTwice() {
        Town town = Town.withScroll(9);
        town.pokeCoin(Checks.coins(Town.SEED, 9)[2]);
        town.offer(0, 0, 2, 3, 40);
        town.offer(0, 0, 2, 3, NO_INDEX);
        town.offer(0, 0, 3, 3, NO_COIN);
        town.minutes(0, 3, 40);
    }

    static void promise8NoneForNoScrollMeterOrPlate() {
        Town town = Town.withScroll(5);
        town.pokeCoin(Checks.coins(Town.SEED, 5)[1]);
        int[] wrong = {-1, 16, MIN, MAX};
        for (int x : wrong) {
            town.offer(x, 0, 1, 0, NONE);
            town.offer(0, x, 1, 0, NONE);
            town.offer(0, 0, 1, x, NONE);
        }
        town.offer(1, 0, 1, 0, NONE);
        town.offer(0, 8, 1, 0, NONE);
        town.spent(0, 0, 0);
    }

    static void promise8NotHereWhenNotOnTheList() {
        Town town = Town.withScroll(5);
        town.pokeCoin(Checks.coins(Town.SEED, 5)[1]);
        town.offer(0, 1, 1, 0, NOT_HERE);
    }

    static void promise8NotHereBehindTheEnd() {
        Town town = Town.withScroll(5);
        town.pokeCoin(Checks.coins(Town.SEED, 5)[1]);
        town.today(11, true);
        town.offer(0, 0, 1, 0, NOT_HERE);
        town.spent(0, 0, 0);
    }

    static void promise8OnTheDayOfTheEnd() {
        Town town = Town.withScroll(5);
        town.pokeCoin(Checks.coins(Town.SEED, 5)[1]);
        town.today(10, true);
        town.offer(0, 0, 1, 0, 20);
    }

    static void promise8IndexesAtTheLowEnd() {
        Town town = Town.withScroll(9);
        town.pokeCoin(Checks.coins(Town.SEED, 9)[1]);
        town.offer(0, 0, MIN, 0, NO_INDEX);
        town.offer(0, 0, -1, 0, NO_INDEX);
        town.offer(0, 0, 0, 0, NO_INDEX);
        town.offer(0, 0, 1, 0, 20);
        town.offer(0, 0, 1, 0, NO_INDEX);
        town.offer(0, 0, 0, 0, NO_INDEX);
    }

    static void promise8IndexesAtTheHighEnd() {
        Town town = Town.withScroll(9);
        town.pokeCoin(Checks.coins(Town.SEED, 9)[9]);
        town.offer(0, 0, MAX, 0, NO_INDEX);
        town.offer(0, 0, 50, 0, NO_INDEX);
        town.offer(0, 0, 10, 0, NO_INDEX);
        town.offer(0, 0, 9, 0, 180);
        town.offer(0, 0, 10, 0, NO_INDEX);
    }

    static void promise8NoCoin() {
        Town town = Town.withScroll(9);
        town.pokeCoin(Checks.coins(Town.SEED, 9)[4]);
        town.offer(0, 0, 3, 0, NO_COIN);
        town.offer(0, 0, 5, 0, NO_COIN);
        town.spent(0, 0, 0);
        town.minutes(0, 0, 0);
        town.offer(0, 0, 4, 0, 80);
    }

    static void promise8CutOff() {
        Town town = Town.withScroll(9);
        town.pokeCoin(Checks.coins(Town.SEED, 9)[4]);
        town.powerCut(0, 0, true);
        town.offer(0, 0, 4, 0, CUT_OFF);
        town.spent(0, 0, 0);
        town.minutes(0, 0, 0);
        town.offer(0, 0, 4, 0, 80);
    }

    static void promise8NoneBeforeNotHere() {
        Town town = Town.withScroll(5);
        town.offer(0, 1, 1, 16, NONE);
        town.offer(0, 1, 1, -1, NONE);
    }

    static void promise8NotHereBeforeNoIndex() {
        Town town = Town.withScroll(5);
        town.offer(0, 1, 0, 0, NOT_HERE);
        town.offer(0, 1, 6, 0, NOT_HERE);
        town.today(11, true);
        town.offer(0, 0, 0, 0, NOT_HERE);
        town.offer(0, 0, 6, 0, NOT_HERE);
    }

    static void promise8NoIndexBeforeNoCoin() {
        Town town = Town.withScroll(5);
        town.offer(0, 0, 0, 0, NO_INDEX);
        town.offer(0, 0, 6, 0, NO_INDEX);
        town.offer(0, 0, 5, 0, NO_COIN);
    }

    static void promise8RefusalsBeforeCutOff() {
        Town town = Town.withScroll(5);
        town.pokeCoin(Checks.coins(Town.SEED, 5)[4]);
        town.powerCut(0, 0, true);
        town.offer(0, 0, 4, 16, NONE);
        town.offer(0, 0, 6, 0, NO_INDEX);
        town.offer(0, 0, 3, 0, NO_COIN);
        town.offer(0, 0, 4, 0, CUT_OFF);
        town.offer(0, 0, 4, 0, 80);
    }

    static void promise8LeavesTheBuffer() {
        Town town = Town.withScroll(5);
        for (int m = 1; m <= 3; m++) {
            town.enter(0, m);
        }
        town.pokeCoin(Checks.coins(Town.SEED, 5)[5]);
        for (int m = 0; m <= 3; m++) {
            town.offer(0, m, 4, 0, NO_COIN);
            town.offer(0, m, 5, 0, 100);
        }
    }

    // Promise 9: poke.

    static void promise9Places0And19() {
        Town town = townWithCoinInBuffer();
        byte[] coin = Checks.coins(Town.SEED, 1)[1];
        int[] ends = {0, 19};
        for (int i : ends) {
            town.poke(i, coin[i] + 1, true);
            town.offer(0, 0, 1, 0, NO_COIN);
            town.poke(i, coin[i], true);
        }
        town.offer(0, 0, 1, 0, 20);
    }

    /** Scroll 0 has one coin, which is in the buffer. */
    private static Town townWithCoinInBuffer() {
        Town town = Town.withScroll(1);
        town.pokeCoin(Checks.coins(Town.SEED, 1)[1]);
        return town;
    }

    static void promise9PlacesMinus1And20() {
        Town town = townWithCoinInBuffer();
        int[] wrong = {-1, 20, MIN, MAX};
        for (int i : wrong) {
            town.poke(i, 0, false);
            town.poke(i, 255, false);
        }
        town.offer(0, 0, 1, 0, 20);
    }

    static void promise9ValuesAbove255() {
        byte[] coin = Checks.coins(Town.SEED, 1)[1];
        Town town = Town.withScroll(1);
        for (int i = 0; i < 20; i++) {
            town.poke(i, (coin[i] & 255) + (256 << i), true);
        }
        town.offer(0, 0, 1, 0, 20);
    }

    static void promise9ValuesBelow0() {
        byte[] coin = Checks.coins(Town.SEED, 1)[1];
        Town town = Town.withScroll(1);
        for (int i = 0; i < 20; i++) {
            town.poke(i, (coin[i] & 255) - (256 << i), true);
        }
        town.offer(0, 0, 1, 0, 20);
    }

    static void promise9ValuesAtTheEnds() {
        int[] values = {0, 255, 256, -1, -256, MIN, MAX};
        for (int value : values) {
            for (int i = 0; i < 20; i += 19) {
                long seed = seedWithByte(i, value & 255);
                byte[] coin = Checks.coins(seed, 1)[1];
                Town town = Town.rich();
                town.buy(0, 1, 10, 1, seed, 1, 0);
                town.enter(0, 0);
                town.pokeCoin(coin);
                town.poke(i, value + 1, true);
                town.offer(0, 0, 1, 0, NO_COIN);
                town.poke(i, value, true);
                town.offer(0, 0, 1, 0, 20);
            }
        }
    }

    private static long seedWithByte(int i, int value) {
        long seed = 0;
        while ((Checks.coins(seed, 1)[1][i] & 255) != value) {
            seed++;
        }
        return seed;
    }

    static void promise9TheLaterValueCounts() {
        byte[] coin = Checks.coins(Town.SEED, 1)[1];
        Town town = Town.withScroll(1);
        for (int i = 0; i < 20; i++) {
            town.poke(i, ~coin[i], true);
        }
        town.offer(0, 0, 1, 0, NO_COIN);
        town.pokeCoin(coin);
        town.offer(0, 0, 1, 0, 20);
    }

    // Promise 12: powerCut.

    static void promise12WritesOutside0To3() {
        int[] wrong = {-1, 4, MIN, MAX};
        for (int writes : wrong) {
            Town town = Town.withScroll(5);
            town.powerCut(0, writes, false);
            town.pay(0, 0, 1, 0, 20);
        }
    }

    static void promise12Writes0To2() {
        for (int writes = 0; writes <= 2; writes++) {
            Town town = Town.withScroll(5);
            town.powerCut(0, writes, true);
            town.pay(0, 0, 1, 0, CUT_OFF);
            town.pay(0, 0, 1, 0, 20);
        }
    }

    static void promise12Writes3() {
        Town town = Town.withScroll(5);
        town.powerCut(0, 3, true);
        town.pay(0, 0, 1, 0, 20);
        town.pay(0, 0, 1, 0, 20);
    }

    static void promise12NoSuchMeter() {
        Town town = Town.withScroll(5);
        int[] wrong = {-1, 8, MIN, MAX};
        for (int m : wrong) {
            town.powerCut(m, 0, false);
            town.powerCut(m, 3, false);
        }
        town.pay(0, 0, 1, 0, 20);
    }

    static void promise12OneChangeOnly() {
        Town town = Town.withScroll(9);
        town.buy(0, 5, 1, 255, 1, 10, 1);
        town.powerCut(0, 1, true);
        town.insert(1, 0, CUT_OFF);
        town.insert(1, 0, 0);
        town.pay(0, 0, 1, 0, 20);
        town.pay(1, 0, 1, 0, 2);
        town.powerCut(0, 1, true);
        town.pay(1, 0, 1, 0, CUT_OFF);
        town.pay(0, 0, 1, 0, 20);
    }

    static void promise12OneMeterOnly() {
        Town town = Town.withScroll(5);
        for (int m = 1; m <= 7; m++) {
            town.enter(0, m);
        }
        town.powerCut(3, 0, true);
        for (int m = 0; m <= 7; m++) {
            town.pay(0, m, 1, 0, m == 3 ? CUT_OFF : 20);
        }
        town.pay(0, 3, 1, 0, 20);
    }

    static void promise12TwoMetersAtOnce() {
        Town town = Town.withScroll(5);
        town.enter(0, 7);
        town.powerCut(0, 0, true);
        town.powerCut(7, 2, true);
        town.pay(0, 7, 1, 0, CUT_OFF);
        town.pay(0, 0, 1, 0, CUT_OFF);
        town.pay(0, 7, 1, 0, 20);
        town.pay(0, 0, 1, 0, 20);
    }

    static void promise12WaitsForTheNextChange() {
        Town town = Town.withScroll(5);
        town.powerCut(0, 0, true);
        town.today(1, true);
        town.newWeek(3, 4, 2);
        town.empty(0, 1);
        town.settle(0);
        town.insert(0, 0, 1);
        town.pay(0, 0, 6, 0, NO_INDEX);
        town.pay(0, 0, 1, 0, CUT_OFF);
        town.pay(0, 0, 1, 0, 20);
    }

    static void promise12ALaterOneTakesThePlaceOfOneThatWaits() {
        Town town = Town.withScroll(5);
        town.powerCut(0, 0, true);
        town.powerCut(0, 3, true);
        town.pay(0, 0, 1, 0, 20);
        town.powerCut(0, 3, true);
        town.powerCut(0, 0, true);
        town.pay(0, 0, 1, 0, CUT_OFF);
        town.powerCut(0, 1, true);
        town.powerCut(0, 1, true);
        town.pay(0, 0, 1, 0, CUT_OFF);
        town.pay(0, 0, 1, 0, 20);
    }

    static void promise12ARefusedOneLeavesOneThatWaits() {
        Town town = Town.withScroll(5);
        town.powerCut(0, 0, true);
        town.powerCut(0, 4, false);
        town.powerCut(0, -1, false);
        town.pay(0, 0, 1, 0, CUT_OFF);
    }

    static void promise12ACutCoinLeavesTheChain() {
        byte[][] coins = Checks.coins(Town.SEED, 9);
        Town town = Town.withScroll(9);
        town.pay(0, 0, 2, 0, 40);
        town.powerCut(0, 2, true);
        town.pay(0, 0, 4, 0, CUT_OFF);
        town.pokeCoin(coins[3]);
        town.offer(0, 0, 3, 0, 20);
        town.powerCut(0, 2, true);
        town.pokeCoin(coins[6]);
        town.offer(0, 0, 6, 0, CUT_OFF);
        town.pay(0, 0, 1, 0, 20);
        town.spent(0, 0, 4);
    }
}
