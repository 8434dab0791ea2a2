/** Promises 13 and 14: empty, settle. */
public final class SettleTest {
    private static final int MIN = Town.MIN;
    private static final int MAX = Town.MAX;
    private static final int NONE = Town.NONE;
    private static final int NOT_HERE = Town.NOT_HERE;
    private static final int CUT_OFF = Town.CUT_OFF;

    private SettleTest() {
    }

    public static void main(String[] args) {
        Checks.runAll(SettleTest.class);
    }

    // Promise 13: empty.

    static void promise13NoSuchMeter() {
        Town town = Town.withScroll(5);
        int[] wrong = {-1, 8, MIN, MAX};
        for (int m : wrong) {
            town.empty(m, NONE);
        }
    }

    static void promise13AnEmptyList() {
        Town town = Town.withScroll(5);
        town.empty(7, 0);
        town.empty(7, 0);
        town.empty(0, 1);
    }

    static void promise13AFullList() {
        Town town = Town.withFullList(255);
        town.empty(0, 6);
        town.empty(0, 6);
        town.count(1, 6);
    }

    static void promise13AFullListThatAllLeave() {
        Town town = Town.withFullList(255);
        for (int s = 0; s < 6; s++) {
            town.pay(s, 0, 1 + s % 5, 0, 2 + 2 * (s % 5));
        }
        town.today(11, true);
        town.empty(0, 6);
        town.empty(0, 0);
        town.count(1, 0);
        town.settle(0);
        town.account(2, 16);
    }

    static void promise13AnEndThatIsToday() {
        Town town = Town.withScroll(5);
        town.today(10, true);
        town.empty(0, 1);
        town.count(1, 1);
        town.spent(0, 0, 0);
        town.pay(0, 0, 1, 0, 20);
    }

    static void promise13AnEndADayBefore() {
        Town town = Town.withScroll(5);
        town.pay(0, 0, 2, 0, 40);
        town.today(11, true);
        town.count(1, 1);
        town.spent(0, 0, 2);
        town.empty(0, 1);
        town.count(1, 0);
        town.spent(0, 0, NONE);
        town.pay(0, 0, 1, 0, NOT_HERE);
        town.empty(0, 0);
    }

    static void promise13SomeLeaveAndSomeStay() {
        Town town = Town.rich();
        int[] days = {4, 3, 5, 3, 4, 60};
        town.empty(5, 0);
        for (int s = 0; s < 6; s++) {
            town.buy(0, 9, 10, 255, s, days[s], s);
            town.insert(s, 5, 0);
            town.pay(s, 5, 1 + s, 0, 20 + 20 * s);
        }
        town.today(4, true);
        town.empty(5, 6);
        town.empty(5, 4);
        for (int s = 0; s < 6; s++) {
            town.spent(s, 5, days[s] == 3 ? NONE : 1 + s);
        }
        town.settle(0);
        town.account(2, 210);
    }

    static void promise13ReadsTheIndexes() {
        Town town = Town.withScroll(5);
        town.pay(0, 0, 2, 0, 40);
        town.settle(0);
        town.account(2, 0);
        town.empty(0, 1);
        town.account(2, 0);
        town.settle(0);
        town.account(2, 20);
    }

    static void promise13ReadsTheIndexesOfThoseThatLeave() {
        Town town = Town.withScroll(5);
        town.pay(0, 0, 2, 0, 40);
        town.today(11, true);
        town.empty(0, 1);
        town.empty(0, 0);
        town.settle(0);
        town.account(2, 20);
    }

    static void promise13TheLatestReadingCounts() {
        Town town = Town.withScroll(5);
        for (int i = 0; i < 4; i++) {
            town.pay(0, 0, 1, 0, 20);
            town.empty(0, 1);
        }
        town.pay(0, 0, 1, 0, 20);
        town.settle(0);
        town.account(2, 40);
    }

    static void promise13ReadsNoOtherMeter() {
        Town town = Town.withScroll(9);
        town.enter(0, 1);
        town.pay(0, 0, 2, 0, 40);
        town.pay(0, 1, 5, 0, 100);
        town.empty(0, 1);
        town.settle(0);
        town.account(2, 20);
        town.empty(1, 1);
        town.settle(0);
        town.account(2, 70);
    }

    static void promise13LeavesIndexesAndMinutes() {
        Town town = Town.withScroll(5);
        town.pay(0, 0, 2, 6, 40);
        town.empty(0, 1);
        town.spent(0, 0, 2);
        town.minutes(0, 6, 40);
        town.pay(0, 0, 3, 6, 60);
        town.minutes(0, 6, 100);
    }

    static void promise13GivesTheKeysOfThisWeekAndTheWeekBefore() {
        Town town = Town.rich();
        town.buy(0, 5, 10, 255, 1, 10, 0);
        town.newWeek(3, 4, 2);
        town.buy(0, 5, 10, 255, 2, 10, 1);
        town.insert(0, 0, 2);
        town.insert(1, 0, 2);
        town.empty(0, 0);
        town.insert(0, 0, 0);
        town.insert(1, 0, 0);
        town.insert(0, 1, 2);
    }

    static void promise13GivesTheKeysToAMeterWithAList() {
        Town town = Town.withScroll(5);
        town.buy(0, 5, 10, 255, 1, 10, 1);
        town.newWeek(3, 4, 2);
        town.buy(0, 5, 10, 255, 2, 10, 2);
        town.insert(2, 0, 2);
        town.empty(0, 1);
        town.insert(1, 0, 0);
        town.insert(2, 0, 0);
    }

    static void promise13TakesTheKeysOfOlderWeeks() {
        Town town = Town.rich();
        town.buy(0, 5, 10, 255, 1, 10, 0);
        town.empty(0, 0);
        town.newWeek(3, 4, 2);
        town.newWeek(5, 6, 3);
        town.empty(0, 0);
        town.insert(0, 0, 2);
    }

    static void promise13BeforeTheFirstWeek() {
        Town town = new Town();
        town.empty(0, 0);
        town.newWeek(1, 2, 1);
        town.money(0, 100, true);
        town.buy(0, 1, 1, 1, 0, 1, 0);
        town.insert(0, 0, 2);
    }

    static void promise13GivesTheBlockedScrolls() {
        Town town = Town.withBlocked(255);
        town.empty(7, 0);
        town.insert(0, 7, 5);
    }

    static void promise13ABlockedScrollStaysOnTheList() {
        Town town = Town.withBlocked(255);
        town.empty(0, 1);
        town.empty(0, 1);
        town.spent(0, 0, 3);
    }

    static void promise13IsNoChangeWithWrites() {
        Town town = Town.withScroll(5);
        town.buy(0, 5, 10, 255, 2, 20, 1);
        town.powerCut(0, 0, true);
        town.today(11, true);
        town.empty(0, 1);
        town.count(1, 0);
        town.insert(1, 0, CUT_OFF);
        town.insert(1, 0, 0);
    }

    static void promise13MovesNoCents() {
        Town town = Town.withScroll(5);
        town.pay(0, 0, 5, 0, 100);
        town.empty(0, 1);
        town.accounts(1000000 - 50, 50, 0);
        town.overspent(0, 0);
    }

    // Promise 14: settle, the coins that were read.

    static void promise14NoScrolls() {
        Town town = Town.rich();
        town.settle(0);
        town.accounts(1000000, 0, 0);
    }

    static void promise14NothingSpent() {
        Town town = Town.withScroll(5);
        town.empty(0, 1);
        town.settle(0);
        town.accounts(1000000 - 50, 50, 0);
        town.overspent(0, 0);
        town.count(2, 0);
    }

    static void promise14NothingRead() {
        Town town = Town.withScroll(5);
        town.pay(0, 0, 4, 0, 80);
        town.settle(0);
        town.accounts(1000000 - 50, 50, 0);
    }

    static void promise14CoinsAreSettledOnce() {
        Town town = Town.withScroll(5);
        town.pay(0, 0, 2, 0, 40);
        town.empty(0, 1);
        town.settle(0);
        town.settle(0);
        town.empty(0, 1);
        town.settle(0);
        town.accounts(1000000 - 50, 30, 20);
    }

    static void promise14FromTheIndexThatWasSettledLast() {
        Town town = Town.withScroll(9);
        town.pay(0, 0, 2, 0, 40);
        town.empty(0, 1);
        town.settle(0);
        town.pay(0, 0, 3, 0, 60);
        town.empty(0, 1);
        town.settle(0);
        town.account(2, 50);
        town.pay(0, 0, 4, 0, 80);
        town.empty(0, 1);
        town.settle(0);
        town.accounts(1000000 - 90, 0, 90);
        town.overspent(0, 0);
    }

    static void promise14JustNCoinsAtOneMeter() {
        Town town = Town.withScroll(60);
        town.pay(0, 0, 50, 0, 1000);
        town.pay(0, 0, 10, 0, 200);
        town.empty(0, 1);
        town.settle(0);
        town.accounts(1000000 - 600, 0, 600);
        town.overspent(0, 0);
        town.count(2, 0);
    }

    static void promise14JustNCoinsAtTwoMeters() {
        Town town = spentAtTwo(5, 3, 2);
        town.settle(0);
        town.accounts(1000000 - 50, 0, 50);
        town.overspent(0, 0);
        town.count(2, 0);
    }

    /** Scroll 0 with n coins of 10 cents, spent at meters 0 and 7, which were emptied. */
    private static Town spentAtTwo(int n, int at0, int at7) {
        Town town = Town.withScroll(n);
        town.enter(0, 7);
        town.pay(0, 0, at0, 0, 20 * at0);
        town.pay(0, 7, at7, 0, 20 * at7);
        town.empty(0, 1);
        town.empty(7, 1);
        return town;
    }

    static void promise14OneCoinLessThanN() {
        Town town = spentAtTwo(5, 2, 2);
        town.settle(0);
        town.accounts(1000000 - 50, 10, 40);
        town.overspent(0, 0);
        town.count(2, 0);
    }

    static void promise14OneCoinBeyondN() {
        Town town = spentAtTwo(5, 3, 3);
        town.settle(0);
        town.accounts(1000000 - 50, 0, 50);
        town.overspent(0, 1);
        town.count(2, 1);
    }

    static void promise14OneCoinBeyondNInALaterCall() {
        Town town = spentAtTwo(5, 3, 2);
        town.settle(0);
        town.count(2, 0);
        town.pay(0, 7, 1, 0, 20);
        town.settle(0);
        town.overspent(0, 0);
        town.empty(7, 1);
        town.settle(0);
        town.accounts(1000000 - 50, 0, 50);
        town.overspent(0, 1);
        town.count(2, 1);
        town.settle(0);
        town.overspent(0, 1);
    }

    static void promise14AllCoinsAtAllMeters() {
        Town town = Town.rich();
        town.buy(0, 60, 1000, 255, 3, 60, 0);
        for (int m = 0; m <= 7; m++) {
            town.enter(0, m);
            town.pay(0, m, 50, 0, 100000);
            town.pay(0, m, 10, 0, 20000);
            town.empty(m, 1);
        }
        town.settle(0);
        town.accounts(1000000 - 60000, 0, 60000);
        town.overspent(0, 420);
        town.count(2, 1);
    }

    static void promise14OneScrollDoesNotPayForAnother() {
        Town town = Town.rich();
        town.buy(0, 4, 3, 255, 1, 10, 0);
        town.buy(0, 4, 100, 255, 2, 10, 1);
        for (int m = 0; m <= 1; m++) {
            town.enter(0, m);
            town.insert(1, m, 0);
            town.pay(0, m, 4, 0, 24);
        }
        town.pay(1, 1, 3, 0, 600);
        town.empty(0, 2);
        town.empty(1, 2);
        town.settle(0);
        town.accounts(1000000 - 412, 100, 312);
        town.overspent(0, 4);
        town.overspent(1, 0);
        town.count(2, 1);
    }

    static void promise14BlockedAtTheOfficeNotAtMeters() {
        Town town = Town.rich();
        town.buy(0, 5, 10, 255, Town.SEED, 10, 0);
        for (int m = 0; m <= 2; m++) {
            town.empty(m, 0);
        }
        town.insert(0, 0, 0);
        town.insert(0, 1, 0);
        town.pay(0, 0, 5, 0, 100);
        town.pay(0, 1, 1, 0, 20);
        town.empty(0, 1);
        town.empty(1, 1);
        town.settle(0);
        town.count(2, 1);
        town.insert(0, 2, 0);
    }

    // Promise 14: settle, the scrolls that are closed.

    static void promise14OnTheDayOfTheEnd() {
        Town town = Town.withScroll(5);
        town.today(10, true);
        town.settle(0);
        town.today(11, true);
        town.settle(0);
        town.count(3, 0);
        town.accounts(1000000 - 50, 50, 0);
    }

    static void promise14SevenDaysBehindTheEnd() {
        Town town = Town.withScroll(5);
        town.today(17, true);
        town.settle(0);
        town.count(3, 0);
        town.accounts(1000000 - 50, 50, 0);
    }

    static void promise14EightDaysBehindTheEnd() {
        Town town = Town.withScroll(5);
        town.today(18, true);
        town.settle(1);
        town.count(3, 1);
        town.accounts(1000000, 0, 0);
    }

    static void promise14FarBehindTheEnd() {
        Town town = Town.withScroll(5);
        town.today(1000000, true);
        town.settle(1);
        town.count(3, 1);
        town.accounts(1000000, 0, 0);
    }

    static void promise14WhatIsLeftGoesBackToItsPurse() {
        Town town = new Town();
        town.newWeek(1, 2, 1);
        town.money(5, 1000, true);
        town.money(6, 1000, true);
        town.buy(5, 10, 7, 255, 1, 3, 0);
        town.buy(6, 10, 9, 255, 2, 3, 1);
        town.enter(0, 2);
        town.pay(0, 2, 4, 0, 56);
        town.empty(2, 1);
        town.settle(0);
        town.today(11, true);
        town.settle(2);
        town.account(15, 1000 - 28);
        town.account(16, 1000);
        town.accounts(2000 - 28, 0, 28);
    }

    static void promise14WhatWasReadIsSettledBeforeItIsClosed() {
        Town town = Town.withScroll(5);
        town.pay(0, 0, 3, 0, 60);
        town.today(18, true);
        town.empty(0, 1);
        town.settle(1);
        town.accounts(1000000 - 30, 0, 30);
        town.overspent(0, 0);
        town.count(2, 0);
    }

    static void promise14NothingIsLeft() {
        Town town = spentAtTwo(5, 5, 4);
        town.today(18, true);
        town.settle(1);
        town.accounts(1000000 - 50, 0, 50);
        town.overspent(0, 4);
        town.count(2, 1);
        town.count(3, 1);
    }

    static void promise14IsClosedOnce() {
        Town town = Town.withScroll(5);
        town.today(18, true);
        town.settle(1);
        town.settle(0);
        town.today(30, true);
        town.settle(0);
        town.count(3, 1);
        town.accounts(1000000, 0, 0);
    }

    static void promise14AllCoinsOfAClosedScrollHaveGone() {
        Town town = Town.withScroll(5);
        town.pay(0, 0, 2, 0, 40);
        town.today(18, true);
        town.settle(1);
        town.account(10, 1000000);
        town.empty(0, 1);
        town.settle(0);
        town.accounts(1000000, 0, 0);
        town.overspent(0, 2);
        town.count(2, 1);
        town.count(3, 1);
    }

    static void promise14CountsThoseClosedByThisCall() {
        Town town = Town.rich();
        int[] days = {5, 4, 5, 3};
        for (int s = 0; s < 4; s++) {
            town.buy(0, 5, 10, 255, s, days[s], s);
        }
        town.today(11, true);
        town.settle(1);
        town.count(3, 1);
        town.today(13, true);
        town.settle(3);
        town.count(3, 4);
    }

    static void promise14SixteenAtOnce() {
        Town town = Town.rich();
        for (int s = 0; s <= 15; s++) {
            town.buy(0, 60, 1000, 255, s, 1, s);
        }
        town.accounts(40000, 960000, 0);
        town.today(9, true);
        town.settle(16);
        town.count(3, 16);
        town.accounts(1000000, 0, 0);
    }

    static void promise14AClosedScrollStaysOnAListUntilItIsEmptied() {
        Town town = Town.withScroll(5);
        town.today(18, true);
        town.settle(1);
        town.count(1, 1);
        town.spent(0, 0, 0);
        town.insert(0, 0, 1);
        town.empty(0, 1);
        town.count(1, 0);
    }
}
