/** Promises 15 to 19: account, spent, overspent, minutes, count. */
public final class AnswersTest {
    private static final int MIN = Town.MIN;
    private static final int MAX = Town.MAX;
    private static final int NONE = Town.NONE;

    private AnswersTest() {
    }

    public static void main(String[] args) {
        Checks.runAll(AnswersTest.class);
    }

    // Promise 15: account.

    static void promise15InAllPurses() {
        Town town = new Town();
        for (int p = 0; p <= 7; p++) {
            town.money(p, 100L << p, true);
            town.account(0, (100L << p + 1) - 100);
        }
    }

    static void promise15ThePursesAtBothEnds() {
        Town town = new Town();
        for (int p = 0; p <= 7; p++) {
            town.money(p, 100L << p, true);
        }
        town.account(9, NONE);
        for (int p = 0; p <= 7; p++) {
            town.account(10 + p, 100L << p);
        }
        town.account(18, NONE);
    }

    static void promise15TheFloatAndTheTowns() {
        Town town = Town.withScroll(10);
        town.account(1, 100);
        town.account(2, 0);
        town.pay(0, 0, 3, 0, 60);
        town.account(1, 100);
        town.empty(0, 1);
        town.settle(0);
        town.account(1, 70);
        town.account(2, 30);
        town.account(0, 1000000 - 100);
    }

    static void promise15OthersAreNone() {
        Town town = Town.withScroll(5);
        for (int which = 3; which <= 9; which++) {
            town.account(which, NONE);
        }
        int[] wrong = {-1, 18, 19, 20, MIN, MAX};
        for (int which : wrong) {
            town.account(which, NONE);
        }
    }

    static void promise15SumsBeyond32Bits() {
        Town town = new Town();
        for (int p = 0; p <= 7; p++) {
            town.money(p, 1000000000, true);
        }
        town.account(0, 8000000000L);
        town.account(17, 1000000000);
        for (int i = 0; i < 4; i++) {
            town.money(0, 1000000000, true);
        }
        town.account(10, 5000000000L);
    }

    // Promise 16: spent.

    static void promise16TheIndexAtBothEnds() {
        Town town = Town.withScroll(60);
        town.spent(0, 0, 0);
        town.pay(0, 0, 1, 0, 20);
        town.spent(0, 0, 1);
        town.pay(0, 0, 50, 0, 1000);
        town.pay(0, 0, 9, 0, 180);
        town.spent(0, 0, 60);
    }

    static void promise16NotOnTheList() {
        Town town = Town.withScroll(5);
        town.buy(0, 5, 10, 255, 1, 10, 1);
        town.spent(1, 0, NONE);
        for (int m = 1; m <= 7; m++) {
            town.spent(0, m, NONE);
        }
    }

    static void promise16BehindTheEndUntilItIsEmptied() {
        Town town = Town.withScroll(5);
        town.pay(0, 0, 2, 0, 40);
        town.today(11, true);
        town.spent(0, 0, 2);
        town.empty(0, 1);
        town.spent(0, 0, NONE);
    }

    static void promise16ScrollsAndMetersAtBothEnds() {
        Town town = Town.rich();
        for (int s = 0; s <= 15; s++) {
            town.buy(0, 5, 10, 255, s, 10, s);
        }
        town.enter(0, 0);
        town.enter(15, 7);
        town.pay(15, 7, 4, 0, 80);
        town.spent(0, 0, 0);
        town.spent(15, 7, 4);
        town.spent(-1, 0, NONE);
        town.spent(16, 7, NONE);
        town.spent(0, -1, NONE);
        town.spent(15, 8, NONE);
        town.spent(MIN, 0, NONE);
        town.spent(MAX, 0, NONE);
        town.spent(0, MIN, NONE);
        town.spent(0, MAX, NONE);
    }

    static void promise16EachMeterHasItsOwn() {
        Town town = Town.withScroll(9);
        town.buy(0, 9, 10, 255, 1, 10, 1);
        town.enter(0, 1);
        town.insert(1, 0, 0);
        town.insert(1, 1, 0);
        town.pay(0, 0, 1, 0, 20);
        town.pay(0, 1, 2, 0, 40);
        town.pay(1, 0, 3, 0, 60);
        town.pay(1, 1, 4, 0, 80);
        town.spent(0, 0, 1);
        town.spent(0, 1, 2);
        town.spent(1, 0, 3);
        town.spent(1, 1, 4);
    }

    // Promise 17: overspent.

    static void promise17NoneAtFirst() {
        Town town = Town.withScroll(5);
        town.overspent(0, 0);
        town.pay(0, 0, 5, 0, 100);
        town.overspent(0, 0);
    }

    static void promise17SoFar() {
        Town town = Town.withScroll(5);
        for (int m = 1; m <= 7; m++) {
            town.enter(0, m);
        }
        for (int m = 0; m <= 7; m++) {
            town.pay(0, m, 5, 0, 100);
            town.empty(m, 1);
            town.overspent(0, m == 0 ? 0 : 5 * (m - 1));
            town.settle(0);
            town.overspent(0, 5 * m);
        }
        town.overspent(0, 35);
    }

    static void promise17ScrollsAtBothEnds() {
        Town town = Town.rich();
        for (int s = 0; s <= 15; s++) {
            town.overspent(s, NONE);
            town.buy(0, 5, 10, 255, s, 10, s);
            town.overspent(s, 0);
        }
        town.enter(15, 0);
        town.enter(15, 1);
        town.pay(15, 0, 5, 0, 100);
        town.pay(15, 1, 2, 0, 40);
        town.empty(0, 1);
        town.empty(1, 1);
        town.settle(0);
        town.overspent(15, 2);
        town.overspent(0, 0);
        town.overspent(14, 0);
        town.overspent(-1, NONE);
        town.overspent(16, NONE);
        town.overspent(MIN, NONE);
        town.overspent(MAX, NONE);
    }

    static void promise17AfterItIsClosed() {
        Town town = Town.withBlocked(255);
        town.overspent(0, 3);
        town.today(18, true);
        town.settle(1);
        town.overspent(0, 3);
    }

    // Promise 18: minutes.

    static void promise18MetersAndPlatesAtBothEnds() {
        Town town = Town.withScroll(5);
        town.enter(0, 7);
        town.pay(0, 0, 1, 0, 20);
        town.pay(0, 0, 2, 15, 40);
        town.pay(0, 7, 3, 0, 60);
        town.pay(0, 7, 1, 15, 20);
        town.minutes(0, 0, 20);
        town.minutes(0, 15, 40);
        town.minutes(7, 0, 60);
        town.minutes(7, 15, 20);
        int[] wrong = {-1, 16, MIN, MAX};
        for (int x : wrong) {
            town.minutes(x, 0, NONE);
            town.minutes(0, x, NONE);
        }
        town.minutes(8, 0, NONE);
    }

    static void promise18AddUp() {
        Town town = Town.withScroll(60);
        town.buy(0, 60, 1000, 255, 6, 20, 1);
        town.insert(1, 0, 0);
        town.pay(1, 0, 50, 7, 100000);
        town.pay(0, 0, 2, 7, 40);
        town.minutes(0, 7, 100040);
    }

    /** Six scrolls with all their coins: more minutes than two bytes hold. */
    static void promise18Most() {
        Town town = Town.rich();
        town.empty(0, 0);
        for (int s = 0; s < 6; s++) {
            town.buy(0, 60, 1000, 255, s, 20, s);
            town.insert(s, 0, 0);
            town.pay(s, 0, 50, 7, 100000);
            town.pay(s, 0, 10, 7, 20000);
        }
        town.minutes(0, 7, 720000);
    }

    static void promise18Today() {
        Town town = Town.withScroll(5);
        town.pay(0, 0, 2, 7, 40);
        town.today(0, true);
        town.minutes(0, 7, 40);
        town.today(1, true);
        town.minutes(0, 7, 0);
    }

    static void promise18EachPlateAndMeterHasItsOwn() {
        Town town = Town.withScroll(60);
        town.pay(0, 0, 2, 7, 40);
        for (int m = 0; m <= 7; m++) {
            for (int plate = 0; plate <= 15; plate++) {
                town.minutes(m, plate, m == 0 && plate == 7 ? 40 : 0);
            }
        }
    }

    // Promise 19: count.

    static void promise19WhatAtBothEnds() {
        Town town = Town.withScroll(5);
        town.count(-1, NONE);
        town.count(0, 1);
        town.count(5, 1);
        town.count(6, NONE);
        town.count(MIN, NONE);
        town.count(MAX, NONE);
    }

    static void promise19ScrollsThatWereBought() {
        Town town = Town.rich();
        town.count(0, 0);
        for (int s = 0; s <= 15; s++) {
            town.buy(0, 1, 1, 1, s, 1, s);
            town.count(0, s + 1);
        }
        town.today(1000000, true);
        town.settle(16);
        town.count(0, 16);
    }

    static void promise19OnListsAsOftenAsTheyAreOnOne() {
        Town town = Town.rich();
        town.buy(0, 5, 10, 255, 1, 10, 0);
        town.buy(0, 5, 10, 255, 2, 10, 1);
        for (int m = 0; m <= 7; m++) {
            town.count(1, 2 * m);
            town.enter(0, m);
            town.count(1, 2 * m + 1);
            town.insert(1, m, 0);
        }
        town.count(1, 16);
        town.today(11, true);
        for (int m = 0; m <= 7; m++) {
            town.empty(m, 2);
            town.count(1, 14 - 2 * m);
        }
    }

    static void promise19BlockedAtTheOffice() {
        Town town = Town.rich();
        town.empty(0, 0);
        town.empty(1, 0);
        for (int s = 0; s < 6; s++) {
            town.buy(0, 5, 10, 255, s, 10, s);
            town.insert(s, 0, 0);
            town.insert(s, 1, 0);
            town.pay(s, 0, 5, 0, 100);
            town.pay(s, 1, 1, 0, 20);
            town.empty(0, s + 1);
            town.empty(1, s + 1);
            town.count(2, s);
            town.settle(0);
            town.count(2, s + 1);
        }
    }

    static void promise19AScrollIsBlockedOnce() {
        Town town = Town.withBlocked(255);
        town.empty(2, 0);
        town.settle(0);
        town.count(2, 1);
        town.today(18, true);
        town.settle(1);
        town.count(2, 1);
    }

    static void promise19ClosedScrolls() {
        Town town = Town.rich();
        for (int s = 0; s < 4; s++) {
            town.buy(0, 5, 10, 255, s, s + 1, s);
        }
        for (int s = 0; s < 4; s++) {
            town.today(s + 9, true);
            town.count(3, s);
            town.settle(1);
            town.count(3, s + 1);
        }
    }

    static void promise19Today() {
        Town town = new Town();
        town.count(4, 0);
        town.today(7, true);
        town.count(4, 7);
        town.today(6, false);
        town.count(4, 7);
        town.today(1000000, true);
        town.count(4, 1000000);
    }

    static void promise19TheWeeksNumber() {
        Town town = new Town();
        town.count(5, 0);
        town.newWeek(9, 9, 1);
        town.count(5, 1);
        town.newWeek(9, 9, 2);
        town.count(5, 2);
    }
}
