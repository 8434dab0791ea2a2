/** Promises 1 to 5: a new object, newWeek, today, money, buy. */
public final class OfficeTest {
    private static final int MIN = Town.MIN;
    private static final int MAX = Town.MAX;
    private static final int NONE = Town.NONE;

    private OfficeTest() {
    }

    public static void main(String[] args) {
        Checks.runAll(OfficeTest.class);
    }

    // Promise 1: No money, no week, no scrolls; the buffer has 20 bytes 0.

    static void promise1NoMoney() {
        Town town = new Town();
        town.accounts(0, 0, 0);
        for (int p = 0; p <= 7; p++) {
            town.account(10 + p, 0);
        }
    }

    static void promise1NoWeek() {
        Town town = new Town();
        town.count(5, 0);
        town.money(0, 1000, true);
        town.buy(0, 1, 1, 1, 1, 1, NONE);
        town.account(10, 1000);
        town.newWeek(1, 1, 1);
        town.buy(0, 1, 1, 1, 1, 1, 0);
    }

    static void promise1NoScrolls() {
        Town town = new Town();
        town.count(0, 0);
        for (int s = 0; s <= 15; s++) {
            town.letterByte(s, 0, NONE);
            town.coinByte(s, 1, 0, NONE);
            town.overspent(s, NONE);
            town.insert(s, 0, NONE);
            town.pay(s, 0, 1, 0, NONE);
            town.offer(s, 0, 1, 0, NONE);
        }
    }

    static void promise1NothingOnLists() {
        Town town = new Town();
        town.count(1, 0);
        for (int m = 0; m <= 7; m++) {
            town.empty(m, 0);
            for (int s = 0; s <= 15; s++) {
                town.spent(s, m, NONE);
            }
        }
    }

    static void promise1NoMinutes() {
        Town town = new Town();
        for (int m = 0; m <= 7; m++) {
            for (int plate = 0; plate <= 15; plate++) {
                town.minutes(m, plate, 0);
            }
        }
    }

    static void promise1NothingBlockedOrClosed() {
        Town town = new Town();
        town.settle(0);
        town.count(2, 0);
        town.count(3, 0);
    }

    static void promise1TodayIs0() {
        Town town = new Town();
        town.count(4, 0);
        town.today(0, true);
        town.count(4, 0);
    }

    static void promise1NoPowerCutWaits() {
        Town town = Town.rich();
        town.buy(0, 1, 1, 255, 1, 1, 0);
        for (int m = 0; m <= 7; m++) {
            town.enter(0, m);
        }
    }

    /** For each byte of the buffer a scroll whose coin has a 0 there: it need not be poked. */
    static void promise1TheBufferHasZeros() {
        for (int i = 0; i < 20; i++) {
            long seed = 0;
            while (Checks.coins(seed, 1)[1][i] != 0) {
                seed++;
            }
            byte[] coin = Checks.coins(seed, 1)[1];
            Town town = Town.rich();
            town.buy(0, 1, 3, 1, seed, 1, 0);
            town.enter(0, 0);
            for (int other = 0; other < 20; other++) {
                if (other != i) {
                    town.poke(other, coin[other], true);
                }
            }
            town.offer(0, 0, 1, 0, 6);
        }
    }

    static void promise1TheBufferOfZerosIsNoCoin() {
        Town town = Town.withScroll(5);
        town.offer(0, 0, 1, 0, Town.NO_COIN);
    }

    static void promise1ObjectsHaveNothingInCommon() {
        Town used = Town.withBlocked(255);
        used.today(18, true);
        used.settle(1);
        used.poke(0, 1, true);
        used.powerCut(0, 0, true);
        Town town = new Town();
        town.accounts(0, 0, 0);
        for (int what = 0; what <= 5; what++) {
            town.count(what, 0);
        }
        town.newWeek(1, 2, 1);
        town.money(0, 100, true);
        town.buy(0, 1, 1, 255, 1, 1, 0);
        town.insert(0, 0, 2);
        town.enter(0, 0);
        used.count(0, 1);
        used.count(4, 18);
    }

    // Promise 2: A new week with a key begins at the office: the week's number, 1 for the first.

    static void promise2TheFirstWeek() {
        Town town = new Town();
        town.newWeek(5, 6, 1);
        town.count(5, 1);
    }

    static void promise2LaterWeeks() {
        Town town = new Town();
        for (int week = 1; week <= 500; week++) {
            town.newWeek(week, -week, week);
        }
        town.count(5, 500);
    }

    static void promise2AnyLongsAreAKey() {
        long[] longs = {0, -1, Long.MIN_VALUE, Long.MAX_VALUE};
        Town town = new Town();
        int week = 0;
        for (long first : longs) {
            for (long second : longs) {
                week++;
                town.newWeek(first, second, week);
            }
        }
    }

    static void promise2TheSameKeyAgainIsANewWeek() {
        Town town = new Town();
        town.newWeek(5, 6, 1);
        town.newWeek(5, 6, 2);
        town.newWeek(5, 6, 3);
        town.money(0, 100, true);
        town.buy(0, 1, 1, 1, 1, 1, 0);
        town.enter(0, 0);
    }

    static void promise2BeginsAtTheOfficeOnly() {
        Town town = Town.rich();
        town.empty(0, 0);
        town.newWeek(3, 4, 2);
        town.buy(0, 1, 1, 3, 1, 1, 0);
        town.insert(0, 0, 2);
        town.insert(0, 1, 2);
        town.empty(1, 0);
        town.insert(0, 1, 0);
        town.insert(0, 0, 2);
    }

    static void promise2TouchesNothingElse() {
        Town town = Town.withScroll(5);
        town.today(2, true);
        town.pay(0, 0, 2, 7, 40);
        town.newWeek(3, 4, 2);
        town.accounts(1000000 - 50, 50, 0);
        town.spent(0, 0, 2);
        town.minutes(0, 7, 40);
        town.count(0, 1);
        town.count(1, 1);
        town.count(4, 2);
    }

    // Promise 3: true; false if it is before today, or above 1000000.

    static void promise3BeforeToday() {
        Town town = new Town();
        town.today(5, true);
        town.today(4, false);
        town.today(0, false);
        town.count(4, 5);
    }

    static void promise3Below0() {
        Town town = new Town();
        town.today(-1, false);
        town.today(MIN, false);
        town.count(4, 0);
    }

    static void promise3TodayItself() {
        Town town = new Town();
        town.today(0, true);
        town.today(5, true);
        town.today(5, true);
        town.count(4, 5);
    }

    static void promise3TheNextDayAndALaterOne() {
        Town town = new Town();
        town.today(1, true);
        town.count(4, 1);
        town.today(2, true);
        town.count(4, 2);
        town.today(999999, true);
        town.count(4, 999999);
    }

    static void promise3TheLastDay() {
        Town town = new Town();
        town.today(1000000, true);
        town.count(4, 1000000);
        town.today(1000000, true);
        town.today(999999, false);
    }

    static void promise3AboveTheLastDay() {
        Town town = new Town();
        town.today(1000001, false);
        town.today(MAX, false);
        town.count(4, 0);
        town.today(1000000, true);
        town.today(1000001, false);
        town.count(4, 1000000);
    }

    // Promise 4: true; false if there is none such, or cents are not 1 .. 1000000000.

    static void promise4OneCent() {
        Town town = new Town();
        town.money(0, 1, true);
        town.account(10, 1);
    }

    static void promise4NoCents() {
        Town town = new Town();
        town.money(0, 0, false);
        town.account(10, 0);
    }

    static void promise4BelowNoCents() {
        Town town = new Town();
        town.money(0, 10, true);
        town.money(0, -1, false);
        town.money(0, Long.MIN_VALUE, false);
        // Its lowest 32 bits are 5.
        town.money(0, (-1L << 32) + 5, false);
        town.account(10, 10);
    }

    static void promise4MostCents() {
        Town town = new Town();
        town.money(0, 999999999, true);
        town.money(0, 1000000000, true);
        town.account(10, 1999999999);
    }

    static void promise4AboveMostCents() {
        Town town = new Town();
        town.money(0, 1000000001, false);
        town.money(0, Long.MAX_VALUE, false);
        town.money(0, (1L << 32) + 5, false);
        town.account(10, 0);
    }

    static void promise4APurseMayHoldMoreThanMostCents() {
        Town town = new Town();
        for (int i = 0; i < 500; i++) {
            town.money(7, 1000000000, true);
        }
        town.account(17, 500000000000L);
        town.account(0, 500000000000L);
    }

    static void promise4MotoristsAtBothEnds() {
        Town town = new Town();
        town.money(0, 3, true);
        town.money(7, 4, true);
        town.money(-1, 5, false);
        town.money(8, 5, false);
        town.money(MIN, 5, false);
        town.money(MAX, 5, false);
        town.account(10, 3);
        town.account(17, 4);
        town.account(0, 7);
    }

    static void promise4NeedsNoWeek() {
        Town town = new Town();
        town.money(3, 50, true);
        town.newWeek(1, 2, 1);
        town.buy(3, 1, 50, 1, 0, 1, 0);
        town.account(13, 0);
    }

    // Promise 5: its number. NONE if ..

    static void promise5IsPaidFromThePurseIntoTheFloat() {
        Town town = new Town();
        town.newWeek(1, 2, 1);
        town.money(3, 1000, true);
        town.money(4, 1000, true);
        town.buy(3, 6, 70, 5, 9, 4, 0);
        town.account(13, 580);
        town.account(14, 1000);
        town.accounts(1580, 420, 0);
        town.count(0, 1);
    }

    static void promise5NumbersFrom0On() {
        Town town = Town.rich();
        for (int s = 0; s <= 15; s++) {
            town.buy(0, 1, 1, 1, 0, 1, s);
            town.count(0, s + 1);
        }
    }

    static void promise5NoSuchMotorist() {
        Town town = Town.rich();
        int[] wrong = {-1, 8, MIN, MAX};
        for (int p : wrong) {
            town.buy(p, 1, 1, 1, 0, 1, NONE);
        }
        town.buy(0, 1, 1, 1, 0, 1, 0);
        town.money(7, 1, true);
        town.buy(7, 1, 1, 1, 0, 1, 1);
    }

    static void promise5NoWeek() {
        Town town = new Town();
        town.money(0, 100, true);
        town.buy(0, 1, 1, 1, 0, 1, NONE);
        town.count(0, 0);
        town.accounts(100, 0, 0);
        town.newWeek(0, 0, 1);
        town.buy(0, 1, 1, 1, 0, 1, 0);
    }

    static void promise5SixteenScrolls() {
        Town town = Town.rich();
        for (int s = 0; s <= 15; s++) {
            town.buy(0, 1, 1, 1, 0, 1, s);
        }
        town.buy(0, 1, 1, 1, 0, 1, NONE);
        town.count(0, 16);
        town.accounts(1000000 - 16, 16, 0);
    }

    static void promise5ClosedScrollsStillCountAsSixteen() {
        Town town = Town.rich();
        for (int s = 0; s <= 15; s++) {
            town.buy(0, 1, 1, 1, 0, 1, s);
        }
        town.today(9, true);
        town.settle(16);
        town.buy(0, 1, 1, 1, 0, 1, NONE);
        town.count(0, 16);
    }

    static void promise5CoinsAtBothEnds() {
        Town town = Town.rich();
        int[] wrong = {0, 61, -1, MIN, MAX};
        for (int n : wrong) {
            town.buy(0, n, 1, 1, 0, 1, NONE);
        }
        town.accounts(1000000, 0, 0);
        town.buy(0, 1, 1, 1, 0, 1, 0);
        town.buy(0, 60, 1, 1, 0, 1, 1);
        town.accounts(1000000 - 61, 61, 0);
    }

    static void promise5CentsAtBothEnds() {
        Town town = Town.rich();
        int[] wrong = {0, 1001, -1, MIN, MAX};
        for (int cents : wrong) {
            town.buy(0, 1, cents, 1, 0, 1, NONE);
        }
        town.accounts(1000000, 0, 0);
        town.buy(0, 1, 1, 1, 0, 1, 0);
        town.buy(0, 1, 1000, 1, 0, 1, 1);
        town.accounts(1000000 - 1001, 1001, 0);
    }

    static void promise5SetsAtBothEnds() {
        Town town = Town.rich();
        int[] wrong = {0, 256, 257, -1, MIN, MAX};
        for (int set : wrong) {
            town.buy(0, 1, 1, set, 0, 1, NONE);
        }
        town.accounts(1000000, 0, 0);
        town.buy(0, 1, 1, 1, 0, 1, 0);
        town.buy(0, 1, 1, 255, 0, 1, 1);
    }

    static void promise5BitMIsForMeterM() {
        Town town = Town.rich();
        for (int m = 0; m <= 7; m++) {
            town.buy(0, 1, 1, 1 << m, m, 1, m);
        }
        for (int m = 0; m <= 7; m++) {
            town.empty(m, 0);
            for (int s = 0; s <= 7; s++) {
                town.insert(s, m, s == m ? 0 : 3);
            }
        }
    }

    static void promise5DaysAtBothEnds() {
        Town town = Town.rich();
        int[] wrong = {0, 61, -1, MIN, MAX};
        for (int days : wrong) {
            town.buy(0, 1, 1, 1, 0, days, NONE);
        }
        town.accounts(1000000, 0, 0);
        town.buy(0, 1, 1, 1, 0, 1, 0);
        town.buy(0, 1, 1, 1, 0, 60, 1);
    }

    static void promise5APurseThatHasJustEnough() {
        Town town = new Town();
        town.newWeek(1, 2, 1);
        town.money(2, 60000, true);
        town.buy(2, 60, 1000, 255, 0, 1, 0);
        town.account(12, 0);
        town.account(1, 60000);
        town.buy(2, 1, 1, 1, 0, 1, NONE);
    }

    static void promise5APurseThatHasOneCentLess() {
        Town town = new Town();
        town.newWeek(1, 2, 1);
        town.money(2, 59999, true);
        town.buy(2, 60, 1000, 255, 0, 1, NONE);
        town.account(12, 59999);
        town.account(1, 0);
        town.money(2, 1, true);
        town.buy(2, 60, 1000, 255, 0, 1, 0);
    }

    static void promise5AnotherPurseDoesNotPay() {
        Town town = Town.rich();
        town.buy(1, 1, 1, 1, 0, 1, NONE);
        town.account(10, 1000000);
    }

    /** Cents beyond 32 bits: their lowest ones alone would be too few. */
    static void promise5APurseBeyond32Bits() {
        Town town = new Town();
        town.newWeek(1, 2, 1);
        for (int i = 0; i < 4; i++) {
            town.money(0, 1000000000, true);
        }
        town.money(0, 294967297, true);
        town.account(10, (1L << 32) + 1);
        town.buy(0, 2, 1, 1, 0, 1, 0);
        town.account(10, (1L << 32) - 1);
    }

    static void promise5ARefusedOneTakesNoNumber() {
        Town town = Town.rich();
        town.buy(0, 61, 1, 1, 0, 1, NONE);
        town.buy(0, 1, 1, 1, 0, 1, 0);
        town.buy(1, 1, 1, 1, 0, 1, NONE);
        town.buy(0, 1, 1, 1, 0, 1, 1);
        town.count(0, 2);
    }
}
