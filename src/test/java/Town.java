/**
 * A new ScrollTown that is told with each call which answer is due. Nothing is promised behind an
 * object's 512th call, so a test that goes beyond it is wrong itself.
 */
final class Town {
    static final int MIN = Integer.MIN_VALUE;
    static final int MAX = Integer.MAX_VALUE;
    /** The answers of the document as it writes them, so that a changed constant is seen. */
    static final int NONE = -1;
    static final int NOT_HERE = -2;
    static final int NO_INDEX = -3;
    static final int NO_COIN = -4;
    static final int CUT_OFF = -5;

    /** The seed of the scroll of withScroll. */
    static final long SEED = 77;

    private static final int MOST_CALLS = 512;

    private final ScrollTown town = new ScrollTown();
    private int calls;

    /** In its first week, key (1, 2), with 1000000 cents in the purse of motorist 0. */
    static Town rich() {
        Town town = new Town();
        town.newWeek(1, 2, 1);
        town.money(0, 1000000, true);
        return town;
    }

    /** With scroll 0, n coins of 10 cents for all meters until day 10, on the list of meter 0. */
    static Town withScroll(int n) {
        Town town = rich();
        town.buy(0, n, 10, 255, SEED, 10, 0);
        town.enter(0, 0);
        return town;
    }

    /** With scroll 0, 3 coins of 10 cents, spent twice at meters 0 and 1 and blocked; no meter was told. */
    static Town withBlocked(int set) {
        Town town = rich();
        town.buy(0, 3, 10, set, SEED, 10, 0);
        town.enter(0, 0);
        town.enter(0, 1);
        town.pay(0, 0, 3, 0, 60);
        town.pay(0, 1, 3, 0, 60);
        town.empty(0, 1);
        town.empty(1, 1);
        town.settle(0);
        town.count(2, 1);
        return town;
    }

    /** With scrolls 0 .. 5 on the full list of meter 0, and scroll 6 for a set of meters; all end on day 10. */
    static Town withFullList(int setOfSixth) {
        Town town = rich();
        for (int s = 0; s < 6; s++) {
            town.buy(0, 5, 1, 255, s, 10, s);
        }
        town.buy(0, 5, 1, setOfSixth, 6, 10, 6);
        town.empty(0, 0);
        for (int s = 0; s < 6; s++) {
            town.insert(s, 0, 0);
        }
        return town;
    }

    /** The meter is told of this week, and takes the scroll. */
    void enter(int scroll, int meter) {
        town.empty(meter);
        calls++;
        insert(scroll, meter, 0);
    }

    void pokeCoin(byte[] coin) {
        for (int i = 0; i < 20; i++) {
            poke(i, coin[i], true);
        }
    }

    void letterIs(int scroll, byte[] letter) {
        Checks.due("bytes of the letter", letter.length, 204);
        for (int i = 0; i < letter.length; i++) {
            letterByte(scroll, i, letter[i] & 255);
        }
    }

    void coinIs(int scroll, int index, byte[] coin) {
        for (int i = 0; i < 20; i++) {
            coinByte(scroll, index, i, coin[i] & 255);
        }
    }

    /** Purses, FLOAT and TOWN, in cents. */
    void accounts(long purses, long floatCents, long townCents) {
        account(0, purses);
        account(1, floatCents);
        account(2, townCents);
    }

    void newWeek(long first, long second, int due) {
        check(town.newWeek(first, second), due, "newWeek", first, second);
    }

    void today(int day, boolean due) {
        check(town.today(day), due, "today", day);
    }

    void money(int motorist, long cents, boolean due) {
        check(town.money(motorist, cents), due, "money", motorist, cents);
    }

    void buy(int motorist, int n, int cents, int set, long seed, int days, int due) {
        check(town.buy(motorist, n, cents, set, seed, days), due, "buy", motorist, n, cents, set, seed, days);
    }

    void insert(int scroll, int meter, int due) {
        check(town.insert(scroll, meter), due, "insert", scroll, meter);
    }

    void pay(int scroll, int meter, int k, int plate, int due) {
        check(town.pay(scroll, meter, k, plate), due, "pay", scroll, meter, k, plate);
    }

    void offer(int scroll, int meter, int index, int plate, int due) {
        check(town.offer(scroll, meter, index, plate), due, "offer", scroll, meter, index, plate);
    }

    void poke(int i, int b, boolean due) {
        check(town.poke(i, b), due, "poke", i, b);
    }

    void coinByte(int scroll, int index, int i, int due) {
        check(town.coinByte(scroll, index, i), due, "coinByte", scroll, index, i);
    }

    void letterByte(int scroll, int i, int due) {
        check(town.letterByte(scroll, i), due, "letterByte", scroll, i);
    }

    void powerCut(int meter, int writes, boolean due) {
        check(town.powerCut(meter, writes), due, "powerCut", meter, writes);
    }

    void empty(int meter, int due) {
        check(town.empty(meter), due, "empty", meter);
    }

    void settle(int due) {
        check(town.settle(), due, "settle");
    }

    void account(int which, long due) {
        check(town.account(which), due, "account", which);
    }

    void spent(int scroll, int meter, int due) {
        check(town.spent(scroll, meter), due, "spent", scroll, meter);
    }

    void overspent(int scroll, int due) {
        check(town.overspent(scroll), due, "overspent", scroll);
    }

    void minutes(int meter, int plate, int due) {
        check(town.minutes(meter, plate), due, "minutes", meter, plate);
    }

    void count(int what, int due) {
        check(town.count(what), due, "count", what);
    }

    private void check(boolean got, boolean due, String name, long... arguments) {
        check(got ? 1 : 0, due ? 1 : 0, name, arguments);
    }

    private void check(long got, long due, String name, long... arguments) {
        calls++;
        if (calls > MOST_CALLS) {
            Checks.fail("the test itself makes more than " + MOST_CALLS + " calls");
        }
        StringBuilder text = new StringBuilder("call ").append(calls).append(", ").append(name).append('(');
        for (int i = 0; i < arguments.length; i++) {
            text.append(i > 0 ? ", " : "").append(arguments[i]);
        }
        Checks.due(text.append(')').toString(), got, due);
    }
}
