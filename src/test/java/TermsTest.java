/** The sentences under 'Terms' that name a limit or an edge, a test for each. */
public final class TermsTest {
    private static final int MIN = Town.MIN;
    private static final int MAX = Town.MAX;
    private static final int NONE = Town.NONE;
    private static final int NOT_HERE = Town.NOT_HERE;
    private static final int NO_INDEX = Town.NO_INDEX;
    private static final int NO_COIN = Town.NO_COIN;
    private static final int CUT_OFF = Town.CUT_OFF;

    private TermsTest() {
    }

    public static void main(String[] args) {
        Checks.runAll(TermsTest.class);
    }

    // HASHES. Through the face rows of 8, 20, 21, 96 and 236 bytes are hashed; HashTest has all others.

    static void hashOfRowsOfOneBlock() {
        long[] seeds = {0, 1, -1, Long.MIN_VALUE, Long.MAX_VALUE, 0x0102030405060708L, 0xfedcba9876543210L};
        Town town = Town.rich();
        for (int s = 0; s < seeds.length; s++) {
            town.buy(0, 3, 1, 255, seeds[s], 1, s);
            byte[][] coins = Checks.coins(seeds[s], 3);
            for (int index = 1; index <= 3; index++) {
                town.coinIs(s, index, coins[index]);
            }
        }
    }

    static void hashOfRowsOfSeveralBlocks() {
        long[][] keys = {{0, 0}, {-1, -1}, {0x0102030405060708L, 0x090a0b0c0d0e0f10L}, {Long.MIN_VALUE, 1}};
        for (long[] key : keys) {
            Town town = new Town();
            town.newWeek(key[0], key[1], 1);
            town.money(0, 1000, true);
            town.buy(0, 3, 1, 255, 5, 1, 0);
            town.letterIs(0, Checks.letter(0, 3, 1, 1, 255, Checks.coins(5, 3)[1], Checks.key(key[0], key[1])));
        }
    }

    // MOTORISTS 0 .. 7, METERS 0 .. 7, SCROLLS 0 .. 15, DAYS 0 .. 1000000, PLATES 0 .. 15.

    static void motorists0To7() {
        Town town = new Town();
        town.newWeek(1, 2, 1);
        for (int p = 0; p <= 7; p++) {
            town.money(p, 10 + p, true);
            town.buy(p, 1, 1 + p, 1, p, 1, p);
            town.account(10 + p, 9);
        }
    }

    static void noMotoristBeside0To7() {
        Town town = Town.rich();
        int[] wrong = {-1, 8, MIN, MAX};
        for (int p : wrong) {
            town.money(p, 100, false);
            town.buy(p, 1, 1, 1, 0, 1, NONE);
        }
        town.account(9, NONE);
        town.account(18, NONE);
        town.accounts(1000000, 0, 0);
    }

    static void meters0To7() {
        Town town = Town.rich();
        town.buy(0, 5, 10, 255, Town.SEED, 10, 0);
        town.pokeCoin(Checks.coins(Town.SEED, 5)[2]);
        for (int m = 0; m <= 7; m++) {
            town.empty(m, 0);
            town.powerCut(m, 0, true);
            town.insert(0, m, CUT_OFF);
            town.insert(0, m, 0);
            town.pay(0, m, 1, 0, 20);
            town.offer(0, m, 2, 0, 20);
            town.spent(0, m, 2);
            town.minutes(m, 0, 40);
            town.empty(m, 1);
        }
    }

    static void noMeterBeside0To7() {
        Town town = Town.withScroll(5);
        town.pokeCoin(Checks.coins(Town.SEED, 5)[2]);
        int[] wrong = {-1, 8, MIN, MAX};
        for (int m : wrong) {
            town.empty(m, NONE);
            town.powerCut(m, 0, false);
            town.insert(0, m, NONE);
            town.pay(0, m, 1, 0, NONE);
            town.offer(0, m, 2, 0, NONE);
            town.spent(0, m, NONE);
            town.minutes(m, 0, NONE);
        }
    }

    static void scrolls0To15() {
        Town town = Town.rich();
        for (int s = 0; s <= 15; s++) {
            town.buy(0, 2, 1, 255, s, 10, s);
        }
        for (int s = 0; s <= 15; s++) {
            town.letterByte(s, 1, s);
            town.coinByte(s, 2, 0, Checks.coins(s, 2)[2][0] & 255);
            town.enter(s, s / 2);
            town.pay(s, s / 2, 2, s, 4);
            town.spent(s, s / 2, 2);
            town.overspent(s, 0);
        }
        town.pokeCoin(Checks.coins(15, 2)[1]);
        town.enter(15, 0);
        town.offer(15, 0, 1, 0, 2);
    }

    static void noScrollBeside0To15() {
        Town town = Town.rich();
        for (int s = 0; s <= 15; s++) {
            town.buy(0, 2, 1, 255, s, 10, s);
        }
        noScroll(town, new int[] {-1, 16, 17, MIN, MAX});
    }

    static void noScrollThatWasNotBought() {
        noScroll(Town.rich(), new int[] {0, 1, 15});
        noScroll(Town.withScroll(5), new int[] {1, 2, 15});
    }

    private static void noScroll(Town town, int[] numbers) {
        for (int s : numbers) {
            town.insert(s, 0, NONE);
            town.pay(s, 0, 1, 0, NONE);
            town.offer(s, 0, 1, 0, NONE);
            town.letterByte(s, 0, NONE);
            town.coinByte(s, 1, 0, NONE);
            town.spent(s, 0, NONE);
            town.overspent(s, NONE);
        }
    }

    static void days0To1000000() {
        Town town = new Town();
        town.count(4, 0);
        town.today(-1, false);
        town.today(0, true);
        town.today(1000000, true);
        town.today(1000001, false);
        town.count(4, 1000000);
    }

    static void plates0To15() {
        Town town = Town.withScroll(40);
        byte[][] coins = Checks.coins(Town.SEED, 40);
        for (int plate = 0; plate <= 15; plate++) {
            town.pay(0, 0, 1, plate, 20);
            town.pokeCoin(coins[2 * plate + 2]);
            town.offer(0, 0, 2 * plate + 2, plate, 20);
        }
        for (int plate = 0; plate <= 15; plate++) {
            town.minutes(0, plate, 40);
        }
    }

    static void noPlateBeside0To15() {
        Town town = Town.withScroll(5);
        town.pokeCoin(Checks.coins(Town.SEED, 5)[1]);
        int[] wrong = {-1, 16, MIN, MAX};
        for (int plate : wrong) {
            town.pay(0, 0, 1, plate, NONE);
            town.offer(0, 0, 1, plate, NONE);
            town.minutes(0, plate, NONE);
        }
        town.spent(0, 0, 0);
    }

    // THE OFFICE.

    static void noWeekAtFirst() {
        Town town = new Town();
        town.count(5, 0);
        town.money(0, 100, true);
        town.buy(0, 1, 1, 1, 0, 1, NONE);
    }

    static void theKeysLongsHaveTheirOrder() {
        Town town = Town.rich();
        town.buy(0, 1, 1, 1, 0, 60, 0);
        town.newWeek(2, 1, 2);
        town.newWeek(2, 1, 3);
        town.empty(0, 0);
        town.insert(0, 0, 2);
        town.newWeek(1, 2, 4);
        town.empty(0, 0);
        town.insert(0, 0, 0);
    }

    static void floatAndTownAreEmptyAtFirst() {
        Town town = new Town();
        town.account(1, 0);
        town.account(2, 0);
    }

    // A SCROLL.

    static void scrollOfOneCoin() {
        byte[] coin = Checks.coins(9, 1)[1];
        Town town = Town.rich();
        town.buy(0, 1, 1, 255, 9, 1, 0);
        town.coinIs(0, 1, coin);
        town.letterIs(0, Checks.letter(0, 1, 1, 1, 255, coin, Checks.key(1, 2)));
    }

    static void scrollOfSixtyCoins() {
        byte[][] coins = Checks.coins(-9, 60);
        Town town = Town.rich();
        town.buy(0, 60, 1, 255, -9, 1, 0);
        int[] indexes = {1, 2, 31, 58, 59, 60};
        for (int index : indexes) {
            town.coinIs(0, index, coins[index]);
        }
        town.letterIs(0, Checks.letter(0, 60, 1, 1, 255, coins[1], Checks.key(1, 2)));
    }

    static void headsOfMetersThatAreNotInTheSetAreZeros() {
        byte[] coin1 = Checks.coins(3, 2)[1];
        int[] sets = {1, 128, 127, 254, 0x55, 0xaa};
        for (int set : sets) {
            Town town = Town.rich();
            town.buy(0, 2, 1, set, 3, 1, 0);
            for (int m = 0; m <= 7; m++) {
                byte[] head = (set >> m & 1) == 1 ? Checks.head(coin1, m) : new byte[20];
                for (int i = 0; i < 20; i++) {
                    town.letterByte(0, 12 + 20 * m + i, head[i] & 255);
                }
            }
        }
    }

    static void numbersOfTheLetterHaveTheHighestByteFirst() {
        Town town = new Town();
        town.newWeek(-5, 5, 1);
        town.money(6, 1000000, true);
        for (int s = 0; s < 15; s++) {
            town.buy(6, 1, 1, 1, 0, 1, s);
        }
        town.today(0x0f1234, true);
        town.buy(6, 60, 1000, 255, 1, 60, 15);
        int[] start = {0, 15, 0, 60, 3, 232, 0, 0x0f, 0x12, 0x70, 0, 255};
        for (int i = 0; i < start.length; i++) {
            town.letterByte(15, i, start[i]);
        }
    }

    static void numbersOfTheLetterAtTheEdgesOfABytesRange() {
        int[] cents = {1, 255, 256, 1000};
        int[] days = {254, 255, 65534, 65535};
        for (int i = 0; i < cents.length; i++) {
            Town town = Town.rich();
            town.today(days[i], true);
            town.buy(0, 2, cents[i], 129, 4, 1, 0);
            town.letterIs(0, Checks.letter(0, 2, cents[i], days[i] + 1, 129, Checks.coins(4, 2)[1], Checks.key(1, 2)));
        }
    }

    static void theEndMayLieBehindTheLastDay() {
        Town town = Town.rich();
        town.today(1000000, true);
        town.buy(0, 2, 1, 1, 4, 60, 0);
        town.letterIs(0, Checks.letter(0, 2, 1, 1000060, 1, Checks.coins(4, 2)[1], Checks.key(1, 2)));
        town.enter(0, 0);
        town.pay(0, 0, 2, 0, 4);
        town.empty(0, 1);
        town.settle(0);
        town.count(1, 1);
        town.accounts(999998, 0, 2);
    }

    static void theEndIsCountedFromTheDayOfBuying() {
        Town town = Town.rich();
        town.today(100, true);
        town.buy(0, 2, 1, 1, 4, 7, 0);
        town.empty(0, 0);
        town.today(107, true);
        town.insert(0, 0, 0);
        town.pay(0, 0, 1, 0, 2);
        town.today(108, true);
        town.pay(0, 0, 1, 0, NOT_HERE);
    }

    static void theCodeIsByTheKeyOfTheWeekOfBuying() {
        byte[] letter = Checks.letter(0, 2, 1, 9, 3, Checks.coins(4, 2)[1], Checks.key(1, 2));
        Town town = Town.rich();
        town.buy(0, 2, 1, 3, 4, 9, 0);
        town.newWeek(3, 4, 2);
        town.letterIs(0, letter);
        town.buy(0, 2, 1, 3, 4, 9, 1);
        town.letterIs(1, Checks.letter(1, 2, 1, 9, 3, Checks.coins(4, 2)[1], Checks.key(3, 4)));
    }

    // A METER: two KEYS at most.

    static void aMeterKnowsOfNoWeekAtFirst() {
        Town town = Town.rich();
        town.buy(0, 2, 1, 255, 4, 9, 0);
        for (int m = 0; m <= 7; m++) {
            town.insert(0, m, 2);
        }
    }

    static void aMeterWithoutAKeyHasNoKeyOfZeros() {
        Town town = new Town();
        town.empty(0, 0);
        town.newWeek(0, 0, 1);
        town.money(0, 10, true);
        town.buy(0, 1, 1, 3, 0, 1, 0);
        town.insert(0, 0, 2);
        town.insert(0, 1, 2);
        town.empty(0, 0);
        town.insert(0, 0, 0);
    }

    static void aMeterWithOneKeyHasNoSecondOneOfZeros() {
        Town town = new Town();
        town.newWeek(7, 7, 1);
        town.empty(0, 0);
        town.newWeek(0, 0, 2);
        town.money(0, 10, true);
        town.buy(0, 1, 1, 1, 0, 1, 0);
        town.insert(0, 0, 2);
    }

    static void aMeterHasTheKeysOfTwoWeeks() {
        Town town = townOfThreeWeeks();
        town.empty(0, 0);
        town.insert(2, 0, 0);
        town.insert(1, 0, 0);
        town.insert(0, 0, 2);
    }

    /** Scroll 0 is of week 1, scroll 1 of week 2, scroll 2 of week 3. */
    private static Town townOfThreeWeeks() {
        Town town = new Town();
        town.money(0, 1000, true);
        for (int week = 1; week <= 3; week++) {
            town.newWeek(week, 2, week);
            town.buy(0, 5, 1, 255, week, 60, week - 1);
        }
        return town;
    }

    static void aMeterThatMissedWeeksHasThatOfTheWeekBefore() {
        Town town = Town.rich();
        town.buy(0, 5, 1, 255, 1, 60, 0);
        town.empty(0, 0);
        town.newWeek(3, 4, 2);
        town.buy(0, 5, 1, 255, 2, 60, 1);
        town.newWeek(5, 6, 3);
        town.empty(0, 0);
        town.insert(0, 0, 2);
        town.insert(1, 0, 0);
    }

    static void aMeterEmptiedTwiceInAWeekKeepsBothKeys() {
        Town town = townOfThreeWeeks();
        town.empty(0, 0);
        town.empty(0, 0);
        town.empty(0, 0);
        town.insert(1, 0, 0);
        town.insert(2, 0, 0);
        town.insert(0, 0, 2);
    }

    static void aMeterKeepsOldKeysUntilItIsEmptied() {
        Town town = Town.rich();
        town.buy(0, 5, 1, 255, 1, 60, 0);
        town.empty(0, 0);
        for (int week = 2; week <= 5; week++) {
            town.newWeek(week, 0, week);
        }
        town.buy(0, 5, 1, 255, 2, 60, 1);
        town.insert(0, 0, 0);
        town.insert(1, 0, 2);
    }

    static void aKeyThatComesAgainIsGoodAgain() {
        Town town = Town.rich();
        town.buy(0, 5, 1, 255, 1, 60, 0);
        town.newWeek(3, 4, 2);
        town.newWeek(5, 6, 3);
        town.newWeek(1, 2, 4);
        town.newWeek(7, 8, 5);
        town.empty(0, 0);
        town.insert(0, 0, 0);
    }

    // A METER: a list of at most 6 scrolls, each with its INDEX.

    static void aListHasSixPlaces() {
        Town town = Town.withFullList(255);
        town.count(1, 6);
        town.insert(6, 0, 6);
        town.count(1, 6);
        town.spent(6, 0, NONE);
    }

    static void eachMeterHasSixPlaces() {
        Town town = Town.rich();
        for (int s = 0; s < 7; s++) {
            town.buy(0, 5, 1, 255, s, 10, s);
        }
        for (int m = 0; m <= 7; m++) {
            town.empty(m, 0);
            for (int s = 0; s < 6; s++) {
                town.insert(s, m, 0);
            }
            town.insert(6, m, 6);
        }
        town.count(1, 48);
    }

    static void aPlaceIsFreeWhenAScrollHasLeft() {
        Town town = Town.rich();
        for (int s = 0; s < 8; s++) {
            town.buy(0, 5, 1, 255, s, s == 2 ? 1 : 10, s);
        }
        town.empty(0, 0);
        for (int s = 0; s < 6; s++) {
            town.insert(s, 0, 0);
        }
        town.today(2, true);
        town.insert(6, 0, 6);
        town.empty(0, 6);
        town.insert(6, 0, 0);
        town.insert(7, 0, 6);
        town.count(1, 6);
    }

    static void scrollsThatStayKeepTheirIndexesWhenOthersLeave() {
        Town town = Town.rich();
        for (int s = 0; s < 6; s++) {
            town.buy(0, 9, 1, 255, s, s % 2 == 0 ? 1 : 10, s);
        }
        town.empty(0, 0);
        for (int s = 5; s >= 0; s--) {
            town.insert(s, 0, 0);
            town.pay(s, 0, s + 1, 0, 2 * (s + 1));
        }
        town.today(2, true);
        town.empty(0, 6);
        for (int s = 0; s < 6; s++) {
            town.spent(s, 0, s % 2 == 0 ? NONE : s + 1);
            town.pay(s, 0, 2, 0, s % 2 == 0 ? NOT_HERE : 4);
        }
    }

    static void theIndexIs0AtFirst() {
        Town town = Town.withScroll(5);
        town.spent(0, 0, 0);
        town.pay(0, 0, 1, 0, 20);
        town.enter(0, 1);
        town.spent(0, 1, 0);
        town.spent(0, 0, 1);
    }

    // A METER: for each plate the MINUTES paid today (0 from each new day on).

    static void minutesAreGoneOnANewDay() {
        Town town = Town.rich();
        town.buy(0, 60, 1, 255, 6, 20, 0);
        for (int m = 0; m <= 7; m++) {
            town.enter(0, m);
            for (int plate = 0; plate <= 15; plate++) {
                town.pay(0, m, 1 + plate % 3, plate, 2 + 2 * (plate % 3));
            }
        }
        town.today(1, true);
        for (int m = 0; m <= 7; m++) {
            for (int plate = 0; plate <= 15; plate++) {
                town.minutes(m, plate, 0);
            }
        }
    }

    static void minutesStayOnTheSameDay() {
        Town town = Town.withScroll(5);
        town.today(3, true);
        town.pay(0, 0, 1, 4, 20);
        town.today(3, true);
        town.minutes(0, 4, 20);
        town.pay(0, 0, 1, 4, 20);
        town.minutes(0, 4, 40);
    }

    static void minutesStayWhenADayIsRefused() {
        Town town = Town.withScroll(5);
        town.today(3, true);
        town.pay(0, 0, 1, 4, 20);
        town.today(2, false);
        town.today(1000001, false);
        town.minutes(0, 4, 20);
    }

    static void minutesOfANewDayStartAt0() {
        Town town = Town.withScroll(5);
        town.pay(0, 0, 2, 4, 40);
        town.today(1, true);
        town.pay(0, 0, 1, 4, 20);
        town.minutes(0, 4, 20);
    }

    // A change of a meter's list takes 3 writes.

    static void aNewScrollWithTooFewWritesIsNotOnTheList() {
        for (int writes = 0; writes <= 2; writes++) {
            Town town = Town.rich();
            town.buy(0, 5, 10, 255, Town.SEED, 10, 0);
            town.empty(0, 0);
            town.powerCut(0, writes, true);
            town.insert(0, 0, CUT_OFF);
            town.spent(0, 0, NONE);
            town.count(1, 0);
            town.pay(0, 0, 1, 0, NOT_HERE);
            town.insert(0, 0, 0);
            town.pay(0, 0, 5, 0, 100);
        }
    }

    static void aPaidCoinWithTooFewWritesIsNotTaken() {
        for (int writes = 0; writes <= 2; writes++) {
            Town town = Town.withScroll(5);
            town.pay(0, 0, 1, 3, 20);
            town.powerCut(0, writes, true);
            town.pay(0, 0, 2, 3, CUT_OFF);
            town.spent(0, 0, 1);
            town.minutes(0, 3, 20);
            town.pay(0, 0, 4, 3, 80);
            town.minutes(0, 3, 100);
        }
    }

    static void anOfferedCoinWithTooFewWritesIsNotTaken() {
        byte[][] coins = Checks.coins(Town.SEED, 5);
        for (int writes = 0; writes <= 2; writes++) {
            Town town = Town.withScroll(5);
            town.pokeCoin(coins[3]);
            town.powerCut(0, writes, true);
            town.offer(0, 0, 3, 3, CUT_OFF);
            town.spent(0, 0, 0);
            town.minutes(0, 3, 0);
            town.offer(0, 0, 3, 3, 60);
            town.minutes(0, 3, 60);
        }
    }

    static void threeWritesAreTheWholeChange() {
        Town town = Town.rich();
        town.buy(0, 5, 10, 255, Town.SEED, 10, 0);
        town.empty(0, 0);
        town.powerCut(0, 3, true);
        town.insert(0, 0, 0);
        town.powerCut(0, 3, true);
        town.pay(0, 0, 1, 3, 20);
        town.pokeCoin(Checks.coins(Town.SEED, 5)[3]);
        town.powerCut(0, 3, true);
        town.offer(0, 0, 3, 3, 40);
        town.minutes(0, 3, 60);
    }

    static void cutsTakeNoPlaceOfTheList() {
        Town town = Town.rich();
        town.empty(0, 0);
        for (int s = 0; s < 7; s++) {
            town.buy(0, 5, 1, 255, s, 10, s);
        }
        for (int s = 0; s < 6; s++) {
            town.powerCut(0, s % 3, true);
            town.insert(s, 0, CUT_OFF);
            town.insert(s, 0, 0);
        }
        town.insert(6, 0, 6);
    }

    // A coin with index j is GOOD, if j is above s and at most s + 50 and n.

    static void aCoinMustBeAboveTheIndexAt0() {
        Town town = Town.withScroll(60);
        byte[][] coins = Checks.coins(Town.SEED, 60);
        town.offer(0, 0, 0, 0, NO_INDEX);
        town.offer(0, 0, -1, 0, NO_INDEX);
        town.pokeCoin(coins[1]);
        town.offer(0, 0, 1, 0, 20);
    }

    static void aCoinMustBeAboveALaterIndex() {
        Town town = Town.withScroll(60);
        byte[][] coins = Checks.coins(Town.SEED, 60);
        town.pay(0, 0, 7, 0, 140);
        town.pokeCoin(coins[6]);
        town.offer(0, 0, 6, 0, NO_INDEX);
        town.pokeCoin(coins[7]);
        town.offer(0, 0, 7, 0, NO_INDEX);
        town.pokeCoin(coins[8]);
        town.offer(0, 0, 8, 0, 20);
    }

    static void aCoinIsAtMostFiftyAboveIndex0() {
        Town town = Town.withScroll(60);
        byte[][] coins = Checks.coins(Town.SEED, 60);
        town.pokeCoin(coins[51]);
        town.offer(0, 0, 51, 0, NO_INDEX);
        town.pokeCoin(coins[50]);
        town.offer(0, 0, 50, 0, 1000);
    }

    static void aCoinIsAtMostFiftyAboveALaterIndex() {
        Town town = Town.withScroll(60);
        byte[][] coins = Checks.coins(Town.SEED, 60);
        town.pay(0, 0, 9, 0, 180);
        town.pokeCoin(coins[60]);
        town.offer(0, 0, 60, 0, NO_INDEX);
        town.pokeCoin(coins[59]);
        town.offer(0, 0, 59, 0, 1000);
    }

    static void theLastCoinMayBeFiftyAbove() {
        Town town = Town.withScroll(60);
        town.pay(0, 0, 10, 0, 200);
        town.pokeCoin(Checks.coins(Town.SEED, 60)[60]);
        town.offer(0, 0, 60, 0, 1000);
        town.spent(0, 0, 60);
    }

    static void aCoinIsAtMostN() {
        Town town = Town.withScroll(5);
        byte[][] coins = Checks.coins(Town.SEED, 5);
        town.offer(0, 0, 6, 0, NO_INDEX);
        town.offer(0, 0, 50, 0, NO_INDEX);
        town.pokeCoin(coins[5]);
        town.offer(0, 0, 6, 0, NO_INDEX);
        town.offer(0, 0, 5, 0, 100);
        town.offer(0, 0, 6, 0, NO_INDEX);
    }

    static void theStepFromIndex0IsThatToTheHead() {
        byte[][] coins = Checks.coins(Town.SEED, 5);
        for (int m = 0; m <= 7; m++) {
            Town town = Town.rich();
            town.buy(0, 5, 10, 255, Town.SEED, 10, 0);
            town.enter(0, m);
            town.pokeCoin(coins[1]);
            town.offer(0, m, 2, 0, NO_COIN);
            town.offer(0, m, 1, 0, 20);
        }
    }

    static void severalStepsFromIndex0EndAtTheHead() {
        byte[][] coins = Checks.coins(Town.SEED, 5);
        for (int j = 2; j <= 5; j++) {
            Town town = Town.withScroll(5);
            town.pokeCoin(coins[j]);
            town.offer(0, 0, j - 1, 0, NO_COIN);
            town.offer(0, 0, j, 0, 20 * j);
        }
    }

    static void stepsFromALaterIndexEndAtTheCoinTakenLast() {
        byte[][] coins = Checks.coins(Town.SEED, 9);
        for (int j = 4; j <= 9; j++) {
            Town town = Town.withScroll(9);
            town.pay(0, 0, 3, 0, 60);
            town.pokeCoin(coins[j]);
            town.offer(0, 0, j == 4 ? 5 : j - 1, 0, NO_COIN);
            town.offer(0, 0, j, 0, 20 * (j - 3));
        }
    }

    static void aCoinOfAnotherScrollIsNotGood() {
        Town town = Town.withScroll(5);
        town.buy(0, 5, 10, 255, 78, 10, 1);
        town.insert(1, 0, 0);
        town.pokeCoin(Checks.coins(78, 5)[2]);
        town.offer(0, 0, 2, 0, NO_COIN);
        town.offer(1, 0, 2, 0, 40);
    }

    static void aCoinWithOneWrongByteIsNotGood() {
        byte[] coin = Checks.coins(Town.SEED, 9)[4];
        Town town = Town.withScroll(9);
        town.pokeCoin(coin);
        for (int i = 0; i < 20; i++) {
            town.poke(i, coin[i] ^ 1 << i % 8, true);
            town.offer(0, 0, 4, 0, NO_COIN);
            town.poke(i, coin[i], true);
        }
        town.offer(0, 0, 4, 0, 80);
    }

    static void aCoinPaysTwoMinutesForACent() {
        int[] cents = {1, 7, 1000};
        for (int price : cents) {
            Town town = Town.rich();
            town.buy(0, 60, price, 255, 5, 10, 0);
            town.enter(0, 0);
            town.pay(0, 0, 1, 0, 2 * price);
            town.pay(0, 0, 50, 0, 100 * price);
            town.minutes(0, 0, 102 * price);
        }
    }
}
