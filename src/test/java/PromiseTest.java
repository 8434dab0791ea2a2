/** Each promise of the document by its number: ordinary inputs, its edges, wrong inputs. */
public final class PromiseTest {
    private static final int MIN = Integer.MIN_VALUE;
    private static final int MAX = Integer.MAX_VALUE;

    private PromiseTest() {
    }

    public static void main(String[] args) {
        promise1NewObject();
        promise1BufferOfZeros();
        promise2NewWeek();
        promise2KeysOfMeters();
        promise3Today();
        promise4Money();
        promise5Buy();
        promise5BuyRefused();
        promise6InsertOrder();
        promise6InsertBlocked();
        promise6InsertSeven();
        promise7Pay();
        promise7PayRefused();
        promise8Offer();
        promise8OfferRefused();
        promise8OfferOfFiftySteps();
        promise9Poke();
        promise10CoinByte();
        promise11LetterByte();
        promise12PowerCut();
        promise13Empty();
        promise13EmptyAndPower();
        promise14Settle();
        promise14SettleInOrder();
        promise14SettleCloses();
        promise14SpentAfterClosing();
        promise15Account();
        promise16Spent();
        promise17Overspent();
        promise18Minutes();
        promise19Count();
        Checks.end();
    }

    private static void due(String call, long got, long want) {
        Checks.due(call, got, want);
    }

    private static void due(String call, boolean got, boolean want) {
        Checks.due(call, got, want);
    }

    /** A town in its first week, key (1, 2), with 1000000 cents in the purse of motorist 0. */
    private static ScrollTown town() {
        ScrollTown town = new ScrollTown();
        town.newWeek(1, 2);
        town.money(0, 1000000);
        return town;
    }

    /** A town with scroll 0, n coins of 10 cents for all meters until day 10, on the list of meter 0. */
    private static ScrollTown townWithScroll(int n) {
        ScrollTown town = town();
        town.buy(0, n, 10, 255, 77, 10);
        town.empty(0);
        town.insert(0, 0);
        return town;
    }

    private static void enter(ScrollTown town, int scroll, int meter) {
        town.empty(meter);
        due("enter " + scroll + " at " + meter, town.insert(scroll, meter), 0);
    }

    private static void pokeCoin(ScrollTown town, byte[] coin) {
        for (int i = 0; i < 20; i++) {
            due("poke " + i, town.poke(i, coin[i]), true);
        }
    }

    private static void promise1NewObject() {
        ScrollTown town = new ScrollTown();
        for (int which = 0; which < 3; which++) {
            due("1 account " + which, town.account(which), 0);
        }
        for (int p = 0; p < 8; p++) {
            due("1 purse " + p, town.account(10 + p), 0);
            due("1 minutes", town.minutes(p, 15), 0);
            due("1 empty", town.empty(p), 0);
        }
        for (int what = 0; what < 6; what++) {
            due("1 count " + what, town.count(what), 0);
        }
        due("1 letterByte", town.letterByte(0, 0), -1);
        due("1 settle", town.settle(), 0);
        town.money(0, 1000);
        due("1 buy without a week", town.buy(0, 1, 1, 1, 1, 1), -1);
        due("1 purse", town.account(10), 1000);
    }

    /** A byte 0 of a coin need not be poked into a new object: for each byte a scroll whose coin has it 0. */
    private static void promise1BufferOfZeros() {
        for (int i = 0; i < 20; i++) {
            long seed = 0;
            while (Checks.coins(seed, 1)[1][i] != 0) {
                seed++;
            }
            byte[] coin = Checks.coins(seed, 1)[1];
            ScrollTown town = town();
            town.buy(0, 1, 3, 1, seed, 1);
            town.empty(0);
            town.insert(0, 0);
            for (int other = 0; other < 20; other++) {
                if (other != i) {
                    town.poke(other, coin[other]);
                }
            }
            due("1 offer with byte " + i + " as it was", town.offer(0, 0, 1, 0), 6);
        }
    }

    private static void promise2NewWeek() {
        ScrollTown town = new ScrollTown();
        for (int week = 1; week <= 300; week++) {
            due("2 newWeek", town.newWeek(Long.MIN_VALUE, -week), week);
        }
        due("2 count", town.count(5), 300);
    }

    private static void promise2KeysOfMeters() {
        ScrollTown town = town();
        due("2 buy", town.buy(0, 5, 1, 255, 1, 60), 0);
        due("2 a meter that knows of no week", town.insert(0, 0), 2);
        town.empty(0);
        town.newWeek(3, 4);
        due("2 buy", town.buy(0, 5, 1, 255, 2, 60), 1);
        due("2 a week of which the meter does not know", town.insert(1, 0), 2);
        town.empty(1);
        due("2 this week", town.insert(1, 1), 0);
        due("2 the week before", town.insert(0, 1), 0);
        town.newWeek(5, 6);
        town.empty(2);
        due("2 two weeks before", town.insert(0, 2), 2);
        due("2 one week before", town.insert(1, 2), 0);
        due("2 a meter with older keys", town.insert(0, 0), 0);
        town.newWeek(2, 1);
        town.empty(3);
        due("2 the longs the other way", town.insert(0, 3), 2);
        town.newWeek(1, 2);
        town.empty(3);
        due("2 the first key once more", town.insert(0, 3), 0);
        due("2 a key that is gone", town.insert(1, 3), 2);
        town.newWeek(1, 2);
        town.newWeek(9, 9);
        town.empty(4);
        due("2 the first key as that of the week before", town.insert(0, 4), 0);
        // A meter with one key must not take a row of zeros for a second one.
        ScrollTown zero = new ScrollTown();
        zero.newWeek(7, 7);
        zero.empty(0);
        zero.newWeek(0, 0);
        zero.money(0, 10);
        zero.buy(0, 1, 1, 1, 0, 1);
        due("2 a key of zeros that the meter has not", zero.insert(0, 0), 2);
        ScrollTown none = new ScrollTown();
        none.empty(0);
        none.newWeek(0, 0);
        none.money(0, 10);
        none.buy(0, 1, 1, 1, 0, 1);
        due("2 a meter emptied before the first week", none.insert(0, 0), 2);
    }

    private static void promise3Today() {
        ScrollTown town = new ScrollTown();
        due("3 same", town.today(0), true);
        due("3 below 0", town.today(-1), false);
        due("3 lowest", town.today(MIN), false);
        due("3 above", town.today(1000001), false);
        due("3 highest", town.today(MAX), false);
        due("3 count", town.count(4), 0);
        due("3 later", town.today(5), true);
        due("3 before", town.today(4), false);
        due("3 count", town.count(4), 5);
        due("3 same", town.today(5), true);
        due("3 last", town.today(1000000), true);
        due("3 above the last", town.today(1000001), false);
        due("3 last again", town.today(1000000), true);
        due("3 count", town.count(4), 1000000);
    }

    private static void promise4Money() {
        ScrollTown town = new ScrollTown();
        due("4 least", town.money(0, 1), true);
        due("4 most", town.money(7, 1000000000L), true);
        due("4 most", town.money(7, 1000000000L), true);
        due("4 most", town.money(7, 1000000000L), true);
        due("4 zero", town.money(0, 0), false);
        due("4 negative", town.money(0, -5), false);
        due("4 too much", town.money(0, 1000000001L), false);
        due("4 far too much", town.money(0, (1L << 32) + 5), false);
        due("4 motorist 8", town.money(8, 5), false);
        due("4 motorist -1", town.money(-1, 5), false);
        due("4 motorist least", town.money(MIN, 5), false);
        due("4 purse 0", town.account(10), 1);
        due("4 purse 7", town.account(17), 3000000000L);
        due("4 purses", town.account(0), 3000000001L);
    }

    private static void promise5Buy() {
        ScrollTown town = new ScrollTown();
        town.newWeek(1, 2);
        town.money(3, 60000);
        due("5 most", town.buy(3, 60, 1000, 255, -1, 60), 0);
        due("5 purse", town.account(13), 0);
        due("5 float", town.account(1), 60000);
        due("5 nothing left", town.buy(3, 1, 1, 1, 0, 1), -1);
        town.money(3, 1);
        due("5 least", town.buy(3, 1, 1, 1, 0, 1), 1);
        due("5 float", town.account(1), 60001);
        due("5 count", town.count(0), 2);
        town.money(3, 99);
        due("5 a cent too few", town.buy(3, 10, 10, 1, 0, 1), -1);
        town.money(3, 1);
        due("5 just enough", town.buy(3, 10, 10, 1, 0, 1), 2);
        town.money(4, 1000);
        for (int s = 3; s < 16; s++) {
            due("5 scroll " + s, town.buy(4, 1, 1, 1, 0, 1), s);
        }
        due("5 seventeenth", town.buy(4, 1, 1, 1, 0, 1), -1);
        due("5 purse", town.account(14), 987);
        due("5 count", town.count(0), 16);
        for (int s = 16; s < 19; s++) {
            due("5 letter of scroll " + s, town.letterByte(s, 0), -1);
            due("5 insert of scroll " + s, town.insert(s, 0), -1);
        }
    }

    private static void promise5BuyRefused() {
        ScrollTown town = town();
        int[] none = {0, -1, MIN, MAX};
        for (int x : none) {
            due("5 n " + x, town.buy(0, x, 1, 1, 0, 1), -1);
            due("5 cents " + x, town.buy(0, 1, x, 1, 0, 1), -1);
            due("5 set " + x, town.buy(0, 1, 1, x, 0, 1), -1);
            due("5 days " + x, town.buy(0, 1, 1, 1, 0, x), -1);
        }
        due("5 n 61", town.buy(0, 61, 1, 1, 0, 1), -1);
        due("5 cents 1001", town.buy(0, 1, 1001, 1, 0, 1), -1);
        due("5 set 256", town.buy(0, 1, 1, 256, 0, 1), -1);
        due("5 days 61", town.buy(0, 1, 1, 1, 0, 61), -1);
        due("5 motorist 8", town.buy(8, 1, 1, 1, 0, 1), -1);
        due("5 motorist -1", town.buy(-1, 1, 1, 1, 0, 1), -1);
        due("5 an empty purse", town.buy(1, 1, 1, 1, 0, 1), -1);
        due("5 count", town.count(0), 0);
        due("5 purse", town.account(10), 1000000);
        due("5 float", town.account(1), 0);
    }

    private static void promise6InsertOrder() {
        ScrollTown town = town();
        town.buy(0, 5, 1, 1, 9, 2);
        town.buy(0, 5, 1, 2, 9, 2);
        due("6 scroll 2", town.insert(2, 0), -1);
        due("6 scroll -1", town.insert(-1, 0), -1);
        due("6 scroll most", town.insert(MAX, 0), -1);
        due("6 meter 8", town.insert(0, 8), -1);
        due("6 meter -1", town.insert(0, -1), -1);
        due("6 no key before not in the set", town.insert(1, 0), 2);
        town.empty(0);
        due("6 not in the set", town.insert(1, 0), 3);
        town.today(2);
        due("6 on the last day", town.insert(0, 0), 0);
        due("6 on the list", town.insert(0, 0), 1);
        due("6 spent", town.spent(0, 0), 0);
        town.newWeek(8, 8);
        town.newWeek(8, 9);
        town.empty(0);
        due("6 on the list before the code", town.insert(0, 0), 1);
        town.today(3);
        due("6 on the list before the end", town.insert(0, 0), 1);
        due("6 the code before the set and the end", town.insert(1, 0), 2);
        due("6 list", town.count(1), 1);
        ScrollTown late = town();
        late.buy(0, 5, 1, 1, 9, 2);
        late.buy(0, 5, 1, 2, 9, 2);
        late.empty(0);
        late.today(3);
        due("6 the set before the end", late.insert(1, 0), 3);
        due("6 behind the end", late.insert(0, 0), 4);
        due("6 list", late.count(1), 0);
    }

    private static void promise6InsertBlocked() {
        ScrollTown town = townWithScroll(3);
        enter(town, 0, 1);
        town.pay(0, 0, 3, 0);
        town.pay(0, 1, 1, 0);
        town.empty(0);
        town.empty(1);
        town.empty(2);
        town.settle();
        due("6 blocked at the office", town.count(2), 1);
        due("6 a meter that was not told", town.insert(0, 2), 0);
        town.empty(3);
        due("6 blocked", town.insert(0, 3), 5);
        town.empty(1);
        due("6 blocked but on the list", town.insert(0, 1), 1);
        due("6 a blocked scroll on the list pays", town.pay(0, 1, 1, 0), 20);
        town.today(11);
        due("6 the end before blocked", town.insert(0, 3), 4);
    }

    private static void promise6InsertSeven() {
        ScrollTown town = town();
        for (int s = 0; s < 8; s++) {
            town.buy(0, 2, 1, 255, s, s == 0 ? 1 : 5);
        }
        town.empty(0);
        town.empty(1);
        for (int s = 0; s < 6; s++) {
            due("6 place " + s, town.insert(s, 0), 0);
        }
        due("6 seventh", town.insert(6, 0), 6);
        due("6 seventh", town.insert(7, 0), 6);
        due("6 on the full list", town.insert(5, 0), 1);
        town.powerCut(0, 0);
        due("6 full before cut off", town.insert(6, 0), 6);
        town.today(2);
        due("6 an ended one still takes its place", town.insert(6, 0), 6);
        due("6 empty", town.empty(0), 6);
        due("6 the cut still waits", town.insert(6, 0), -5);
        due("6 a free place", town.insert(6, 0), 0);
        due("6 full again", town.insert(7, 0), 6);
        due("6 another meter", town.insert(7, 1), 0);
        due("6 list", town.count(1), 7);
        // The lists of blocked ones come before the place.
        town.pay(7, 1, 2, 0);
        enter(town, 7, 2);
        town.pay(7, 2, 2, 0);
        town.empty(1);
        town.empty(2);
        town.settle();
        town.empty(0);
        due("6 blocked before full", town.insert(7, 0), 5);
    }

    private static void promise7Pay() {
        ScrollTown town = townWithScroll(60);
        due("7 one coin", town.pay(0, 0, 1, 15), 20);
        due("7 fifty coins", town.pay(0, 0, 50, 0), 1000);
        due("7 nine coins", town.pay(0, 0, 9, 0), 180);
        due("7 spent", town.spent(0, 0), 60);
        due("7 no more", town.pay(0, 0, 1, 0), -3);
        due("7 minutes 0", town.minutes(0, 0), 1180);
        due("7 minutes 15", town.minutes(0, 15), 20);
        // Paying leaves the buffer as it was: a poked coin is good later.
        ScrollTown other = townWithScroll(5);
        byte[][] coins = Checks.coins(77, 5);
        pokeCoin(other, coins[3]);
        due("7 pay", other.pay(0, 0, 2, 0), 40);
        due("7 offer", other.offer(0, 0, 3, 0), 20);
        due("7 pay behind an offer", other.pay(0, 0, 1, 0), 20);
        due("7 spent", other.spent(0, 0), 4);
        other.today(10);
        due("7 on the last day", other.pay(0, 0, 1, 1), 20);
    }

    private static void promise7PayRefused() {
        ScrollTown town = townWithScroll(60);
        due("7 scroll 1", town.pay(1, 0, 1, 0), -1);
        due("7 scroll -1", town.pay(-1, 0, 1, 0), -1);
        due("7 meter 8", town.pay(0, 8, 1, 0), -1);
        due("7 meter -1", town.pay(0, -1, 1, 0), -1);
        due("7 plate 16", town.pay(0, 0, 1, 16), -1);
        due("7 plate -1", town.pay(0, 0, 1, -1), -1);
        int[] wrong = {0, -1, 51, MIN, MAX};
        for (int k : wrong) {
            due("7 k " + k, town.pay(0, 0, k, 0), -1);
            due("7 k before not here " + k, town.pay(0, 1, k, 0), -1);
        }
        due("7 not here", town.pay(0, 1, 1, 0), -2);
        town.pay(0, 0, 50, 0);
        due("7 no such coin", town.pay(0, 0, 11, 0), -3);
        town.powerCut(0, 2);
        due("7 no such coin before cut off", town.pay(0, 0, 11, 0), -3);
        due("7 cut off", town.pay(0, 0, 10, 0), -5);
        due("7 spent", town.spent(0, 0), 50);
        due("7 minutes", town.minutes(0, 0), 1000);
        town.today(11);
        due("7 behind the end", town.pay(0, 0, 10, 0), -2);
        due("7 not here before no index", town.pay(0, 0, 11, 0), -2);
        due("7 spent", town.spent(0, 0), 50);
    }

    private static void promise8Offer() {
        byte[][] coins = Checks.coins(77, 9);
        ScrollTown town = townWithScroll(9);
        enter(town, 0, 7);
        pokeCoin(town, coins[2]);
        due("8 two coins", town.offer(0, 0, 2, 3), 40);
        due("8 minutes", town.minutes(0, 3), 40);
        due("8 spent", town.spent(0, 0), 2);
        due("8 the same coin twice", town.offer(0, 0, 2, 3), -3);
        due("8 the same coin at another meter", town.offer(0, 7, 2, 3), 40);
        due("8 another meter's spent", town.spent(0, 7), 2);
        pokeCoin(town, coins[9]);
        due("8 the last coin", town.offer(0, 0, 9, 3), 140);
        due("8 minutes", town.minutes(0, 3), 180);
        due("8 spent", town.spent(0, 0), 9);
        due("8 behind the last coin", town.offer(0, 0, 10, 3), -3);
        ScrollTown first = townWithScroll(1);
        pokeCoin(first, Checks.coins(77, 1)[1]);
        due("8 the only coin", first.offer(0, 0, 1, 0), 20);
    }

    private static void promise8OfferRefused() {
        byte[][] coins = Checks.coins(77, 9);
        ScrollTown town = townWithScroll(9);
        pokeCoin(town, coins[4]);
        due("8 scroll 1", town.offer(1, 0, 4, 0), -1);
        due("8 scroll -1", town.offer(-1, 0, 4, 0), -1);
        due("8 meter 8", town.offer(0, 8, 4, 0), -1);
        due("8 meter -1", town.offer(0, -1, 4, 0), -1);
        due("8 plate 16", town.offer(0, 0, 4, 16), -1);
        due("8 plate -1", town.offer(0, 0, 4, -1), -1);
        due("8 not here", town.offer(0, 1, 4, 0), -2);
        due("8 not here before no index", town.offer(0, 1, 0, 0), -2);
        int[] wrong = {0, -1, 10, 51, MIN, MAX};
        for (int index : wrong) {
            due("8 index " + index, town.offer(0, 0, index, 0), -3);
        }
        due("8 another index", town.offer(0, 0, 3, 0), -4);
        due("8 another index", town.offer(0, 0, 5, 0), -4);
        for (int i = 0; i < 20; i++) {
            town.poke(i, coins[4][i] ^ 1);
            due("8 byte " + i + " is wrong", town.offer(0, 0, 4, 0), -4);
            town.poke(i, coins[4][i]);
        }
        town.powerCut(0, 1);
        due("8 no index before cut off", town.offer(0, 0, 10, 0), -3);
        due("8 no coin before cut off", town.offer(0, 0, 5, 0), -4);
        due("8 cut off", town.offer(0, 0, 4, 0), -5);
        due("8 spent", town.spent(0, 0), 0);
        due("8 minutes", town.minutes(0, 0), 0);
        town.today(10);
        due("8 on the last day", town.offer(0, 0, 4, 0), 80);
        pokeCoin(town, coins[6]);
        town.today(11);
        due("8 behind the end", town.offer(0, 0, 6, 0), -2);
        due("8 spent", town.spent(0, 0), 4);
    }

    private static void promise8OfferOfFiftySteps() {
        byte[][] coins = Checks.coins(77, 60);
        ScrollTown town = townWithScroll(60);
        pokeCoin(town, coins[51]);
        due("8 51 above 0", town.offer(0, 0, 51, 0), -3);
        pokeCoin(town, coins[50]);
        due("8 50 above 0", town.offer(0, 0, 50, 0), 1000);
        ScrollTown later = townWithScroll(60);
        later.pay(0, 0, 9, 0);
        pokeCoin(later, coins[60]);
        due("8 51 above 9", later.offer(0, 0, 60, 0), -3);
        pokeCoin(later, coins[59]);
        due("8 50 above 9", later.offer(0, 0, 59, 0), 1000);
        pokeCoin(later, coins[58]);
        due("8 below", later.offer(0, 0, 58, 0), -3);
    }

    private static void promise9Poke() {
        byte[] coin = Checks.coins(77, 1)[1];
        ScrollTown town = townWithScroll(1);
        for (int i = 0; i < 20; i++) {
            due("9 poke " + i, town.poke(i, coin[i] & 255 | 0x7b00 << (i % 16)), true);
        }
        due("9 20", town.poke(20, 1), false);
        due("9 -1", town.poke(-1, 1), false);
        due("9 least", town.poke(MIN, 1), false);
        due("9 most", town.poke(MAX, 1), false);
        due("9 the lowest eight bits", town.offer(0, 0, 1, 0), 20);
    }

    private static void promise10CoinByte() {
        ScrollTown town = town();
        long[] seeds = {0, -1, Long.MIN_VALUE, Long.MAX_VALUE, 0x0102030405060708L};
        int[] sizes = {1, 2, 60, 7, 59};
        for (int s = 0; s < seeds.length; s++) {
            town.buy(0, sizes[s], 1, 1 << s, seeds[s], 1);
            byte[][] coins = Checks.coins(seeds[s], sizes[s]);
            for (int index = 1; index <= sizes[s]; index++) {
                for (int i = 0; i < 20; i++) {
                    due("10 coin " + index + " byte " + i, town.coinByte(s, index, i), coins[index][i] & 255);
                }
            }
            due("10 index 0", town.coinByte(s, 0, 0), -1);
            due("10 index above", town.coinByte(s, sizes[s] + 1, 0), -1);
        }
        int[] wrong = {-1, MIN, MAX};
        for (int x : wrong) {
            due("10 scroll " + x, town.coinByte(x, 1, 0), -1);
            due("10 index " + x, town.coinByte(0, x, 0), -1);
            due("10 byte " + x, town.coinByte(0, 1, x), -1);
        }
        due("10 scroll 5", town.coinByte(5, 1, 0), -1);
        due("10 byte 20", town.coinByte(2, 1, 20), -1);
    }

    private static void promise11LetterByte() {
        ScrollTown town = town();
        town.money(1, 1000000);
        letterIs(town, 0, town.buy(0, 5, 10, 3, 77, 3), Checks.letter(0, 5, 10, 3, 3, Checks.coins(77, 5)[1], Checks.key(1, 2)));
        town.today(70000);
        town.newWeek(-3, Long.MIN_VALUE);
        letterIs(town, 1, town.buy(1, 60, 1000, 255, -9, 60),
            Checks.letter(1, 60, 1000, 70060, 255, Checks.coins(-9, 60)[1], Checks.key(-3, Long.MIN_VALUE)));
        town.today(1000000);
        letterIs(town, 2, town.buy(1, 1, 1, 128, 0, 60),
            Checks.letter(2, 1, 1, 1000060, 128, Checks.coins(0, 1)[1], Checks.key(-3, Long.MIN_VALUE)));
        int[] wrong = {-1, 204, MIN, MAX};
        for (int x : wrong) {
            due("11 byte " + x, town.letterByte(0, x), -1);
            due("11 scroll " + x, town.letterByte(x, 0), -1);
        }
        due("11 scroll 3", town.letterByte(3, 0), -1);
    }

    private static void letterIs(ScrollTown town, int number, int bought, byte[] letter) {
        due("11 buy", bought, number);
        due("11 bytes", letter.length, 204);
        for (int i = 0; i < letter.length; i++) {
            due("11 letter " + number + " byte " + i, town.letterByte(number, i), letter[i] & 255);
        }
    }

    private static void promise12PowerCut() {
        ScrollTown town = town();
        town.buy(0, 60, 1, 255, 5, 10);
        int[] wrong = {-1, MIN, MAX};
        for (int x : wrong) {
            due("12 meter " + x, town.powerCut(x, 0), false);
            due("12 writes " + x, town.powerCut(0, x), false);
        }
        due("12 meter 8", town.powerCut(8, 0), false);
        due("12 writes 4", town.powerCut(0, 4), false);
        for (int m = 0; m < 8; m++) {
            town.empty(m);
        }
        due("12 nothing was cut", town.insert(0, 0), 0);
        for (int writes = 0; writes < 3; writes++) {
            due("12 cut", town.powerCut(1, writes), true);
            due("12 cut off", town.insert(0, 1), -5);
            due("12 not on the list", town.spent(0, 1), -1);
        }
        due("12 list", town.count(1), 1);
        due("12 once", town.insert(0, 1), 0);
        for (int writes = 0; writes < 3; writes++) {
            due("12 cut", town.powerCut(1, writes), true);
            due("12 another meter", town.pay(0, 0, 1, 0), 2);
            due("12 cut off", town.pay(0, 1, 5, 0), -5);
            due("12 spent", town.spent(0, 1), 5 * writes);
            due("12 minutes", town.minutes(1, 0), 10 * writes);
            due("12 once", town.pay(0, 1, 5, 0), 10);
        }
        town.powerCut(2, 3);
        due("12 three writes are all", town.insert(0, 2), 0);
        town.powerCut(3, 0);
        town.powerCut(3, 3);
        due("12 the later word counts", town.insert(0, 3), 0);
        town.powerCut(3, 3);
        town.powerCut(3, 0);
        due("12 a refused change does not use it up", town.insert(0, 3), 1);
        due("12 the later word counts", town.pay(0, 3, 1, 0), -5);
        // A cut off coin leaves the coin before as the last one that was taken.
        due("12 the chain goes on", town.pay(0, 3, 2, 0), 4);
        due("12 spent", town.spent(0, 3), 2);
    }

    private static void promise13Empty() {
        ScrollTown town = town();
        int[] wrong = {-1, 8, MIN, MAX};
        for (int x : wrong) {
            due("13 meter " + x, town.empty(x), -1);
        }
        town.buy(0, 9, 10, 255, 1, 3);
        town.buy(0, 9, 10, 255, 2, 4);
        town.buy(0, 9, 10, 255, 3, 3);
        due("13 none", town.empty(5), 0);
        for (int s = 0; s < 3; s++) {
            town.insert(s, 5);
            town.pay(s, 5, 2 + s, 0);
        }
        due("13 three", town.empty(5), 3);
        due("13 three again", town.empty(5), 3);
        due("13 the index stays", town.spent(1, 5), 3);
        town.today(3);
        due("13 on the last day", town.empty(5), 3);
        due("13 list", town.count(1), 3);
        town.pay(0, 5, 5, 0);
        town.today(4);
        due("13 behind the end it is still there", town.spent(0, 5), 7);
        due("13 still three", town.empty(5), 3);
        due("13 left", town.spent(0, 5), -1);
        due("13 left", town.spent(2, 5), -1);
        due("13 stays", town.spent(1, 5), 3);
        due("13 list", town.count(1), 1);
        due("13 one", town.empty(5), 1);
        town.settle();
        due("13 what left the list was read", town.account(2), (7 + 3 + 4) * 10);
    }

    private static void promise13EmptyAndPower() {
        ScrollTown town = townWithScroll(5);
        town.buy(0, 5, 10, 255, 2, 20);
        town.powerCut(0, 0);
        town.today(11);
        due("13 no change with writes", town.empty(0), 1);
        due("13 left", town.count(1), 0);
        due("13 the cut still waits", town.insert(1, 0), -5);
        due("13 once", town.insert(1, 0), 0);
    }

    private static void promise14Settle() {
        ScrollTown town = townWithScroll(9);
        due("14 nothing", town.settle(), 0);
        town.pay(0, 0, 4, 0);
        town.settle();
        due("14 not read yet", town.account(2), 0);
        town.empty(0);
        town.pay(0, 0, 1, 0);
        due("14 settle", town.settle(), 0);
        due("14 what was read", town.account(2), 40);
        due("14 float", town.account(1), 50);
        town.settle();
        due("14 once only", town.account(2), 40);
        town.empty(0);
        town.settle();
        due("14 from the last index on", town.account(2), 50);
        enter(town, 0, 6);
        town.pay(0, 6, 4, 0);
        town.empty(6);
        town.settle();
        due("14 just n", town.account(2), 90);
        due("14 float", town.account(1), 0);
        due("14 not overspent", town.overspent(0), 0);
        due("14 not blocked", town.count(2), 0);
        town.pay(0, 6, 1, 0);
        town.empty(6);
        town.settle();
        due("14 overspent", town.overspent(0), 1);
        due("14 blocked", town.count(2), 1);
        due("14 town", town.account(2), 90);
        due("14 float", town.account(1), 0);
        town.settle();
        due("14 overspent once", town.overspent(0), 1);
    }

    private static void promise14SettleInOrder() {
        ScrollTown town = town();
        town.buy(0, 10, 3, 255, 1, 5);
        town.buy(0, 4, 100, 255, 2, 5);
        for (int m = 7; m >= 0; m--) {
            enter(town, 0, m);
            town.insert(1, m);
            town.pay(0, m, 4, 0);
            town.empty(m);
        }
        town.pay(1, 4, 3, 0);
        town.empty(4);
        due("14 none closed", town.settle(), 0);
        due("14 overspent 0", town.overspent(0), 22);
        due("14 overspent 1", town.overspent(1), 0);
        due("14 town", town.account(2), 330);
        due("14 float", town.account(1), 100);
        due("14 blocked", town.count(2), 1);
    }

    private static void promise14SettleCloses() {
        ScrollTown town = town();
        town.money(5, 1000);
        town.buy(5, 10, 7, 255, 1, 3);
        town.buy(0, 10, 9, 255, 2, 4);
        enter(town, 0, 2);
        town.pay(0, 2, 4, 0);
        town.empty(2);
        town.today(10);
        due("14 seven days behind the end", town.settle(), 0);
        due("14 town", town.account(2), 28);
        due("14 purse", town.account(15), 930);
        town.today(11);
        due("14 eight days", town.settle(), 1);
        due("14 closed", town.count(3), 1);
        due("14 purse", town.account(15), 972);
        due("14 float", town.account(1), 90);
        due("14 closed once", town.settle(), 0);
        due("14 purse", town.account(15), 972);
        town.today(1000000);
        due("14 the other one", town.settle(), 1);
        due("14 closed", town.count(3), 2);
        due("14 purse 0", town.account(10), 1000000);
        due("14 float", town.account(1), 0);
        due("14 none blocked", town.count(2), 0);
    }

    private static void promise14SpentAfterClosing() {
        ScrollTown town = townWithScroll(10);
        enter(town, 0, 1);
        town.pay(0, 0, 3, 0);
        town.pay(0, 1, 4, 0);
        town.today(18);
        town.empty(1);
        due("14 settled first, then closed", town.settle(), 1);
        due("14 town", town.account(2), 40);
        due("14 purse", town.account(10), 1000000 - 40);
        due("14 read late", town.empty(0), 1);
        due("14 settle", town.settle(), 0);
        due("14 all coins had gone", town.overspent(0), 3);
        due("14 blocked", town.count(2), 1);
        due("14 closed", town.count(3), 1);
        due("14 town", town.account(2), 40);
        due("14 float", town.account(1), 0);
        due("14 purse", town.account(10), 1000000 - 40);
    }

    private static void promise15Account() {
        ScrollTown town = new ScrollTown();
        town.newWeek(1, 1);
        for (int p = 0; p < 8; p++) {
            town.money(p, 100 << p);
        }
        due("15 purses", town.account(0), 25500);
        for (int p = 0; p < 8; p++) {
            due("15 purse " + p, town.account(10 + p), 100 << p);
        }
        town.buy(2, 10, 10, 1, 1, 1);
        town.empty(0);
        town.insert(0, 0);
        town.pay(0, 0, 3, 0);
        town.empty(0);
        town.settle();
        due("15 purses", town.account(0), 25400);
        due("15 float", town.account(1), 70);
        due("15 town", town.account(2), 30);
        due("15 purse 2", town.account(12), 300);
        int[] wrong = {-1, 3, 9, 18, MIN, MAX};
        for (int x : wrong) {
            due("15 account " + x, town.account(x), -1);
        }
    }

    private static void promise16Spent() {
        ScrollTown town = townWithScroll(9);
        town.buy(0, 9, 1, 255, 4, 1);
        due("16 at first", town.spent(0, 0), 0);
        town.pay(0, 0, 9, 0);
        due("16 all", town.spent(0, 0), 9);
        due("16 another meter", town.spent(0, 1), -1);
        due("16 another scroll", town.spent(1, 0), -1);
        due("16 scroll 2", town.spent(2, 0), -1);
        due("16 scroll -1", town.spent(-1, 0), -1);
        due("16 meter 8", town.spent(0, 8), -1);
        due("16 meter -1", town.spent(0, -1), -1);
        due("16 most", town.spent(MAX, MIN), -1);
    }

    private static void promise17Overspent() {
        ScrollTown town = townWithScroll(5);
        due("17 at first", town.overspent(0), 0);
        due("17 scroll 1", town.overspent(1), -1);
        due("17 scroll -1", town.overspent(-1), -1);
        due("17 scroll least", town.overspent(MIN), -1);
        due("17 scroll most", town.overspent(MAX), -1);
        for (int m = 1; m < 8; m++) {
            enter(town, 0, m);
        }
        for (int m = 0; m < 8; m++) {
            town.pay(0, m, 5, 0);
        }
        for (int m = 0; m < 8; m++) {
            town.empty(m);
            due("17 before it is settled", town.overspent(0), Math.max(0, m - 1) * 5);
            town.settle();
            due("17 meters 0 .. " + m, town.overspent(0), m * 5);
        }
        due("17 blocked once", town.count(2), 1);
    }

    private static void promise18Minutes() {
        ScrollTown town = townWithScroll(60);
        town.buy(0, 60, 1000, 255, 6, 20);
        town.insert(1, 0);
        due("18 most", town.pay(1, 0, 50, 7), 100000);
        due("18 more", town.pay(0, 0, 2, 7), 40);
        due("18 in all", town.minutes(0, 7), 100040);
        due("18 another plate", town.minutes(0, 6), 0);
        due("18 another meter", town.minutes(1, 7), 0);
        town.empty(0);
        due("18 after emptying", town.minutes(0, 7), 100040);
        town.today(0);
        due("18 the same day", town.minutes(0, 7), 100040);
        town.today(-1);
        due("18 a refused day", town.minutes(0, 7), 100040);
        town.today(1);
        due("18 a new day", town.minutes(0, 7), 0);
        town.pay(0, 0, 1, 7);
        due("18 on the new day", town.minutes(0, 7), 20);
        int[] wrong = {-1, MIN, MAX};
        for (int x : wrong) {
            due("18 meter " + x, town.minutes(x, 0), -1);
            due("18 plate " + x, town.minutes(0, x), -1);
        }
        due("18 meter 8", town.minutes(8, 0), -1);
        due("18 plate 16", town.minutes(0, 16), -1);
        due("18 the last", town.minutes(7, 15), 0);
        minutesOfAllPlates();
    }

    private static void minutesOfAllPlates() {
        ScrollTown town = town();
        town.buy(0, 60, 1, 255, 6, 20);
        for (int m = 0; m < 8; m++) {
            enter(town, 0, m);
            for (int plate = 0; plate < 16; plate++) {
                town.pay(0, m, 1 + plate % 3, plate);
                due("18 meter " + m + " plate " + plate, town.minutes(m, plate), 2 + 2 * (plate % 3));
            }
        }
        town.today(1);
        for (int m = 0; m < 8; m++) {
            for (int plate = 0; plate < 16; plate++) {
                due("18 a new day, meter " + m + " plate " + plate, town.minutes(m, plate), 0);
            }
        }
    }

    private static void promise19Count() {
        ScrollTown town = townWithScroll(5);
        town.buy(0, 5, 10, 255, 2, 30);
        enter(town, 0, 1);
        enter(town, 1, 1);
        town.pay(0, 0, 5, 0);
        town.pay(0, 1, 5, 0);
        town.empty(0);
        town.empty(1);
        town.settle();
        town.today(18);
        town.newWeek(0, 0);
        town.settle();
        int[] want = {2, 3, 1, 1, 18, 2};
        for (int what = 0; what < want.length; what++) {
            due("19 count " + what, town.count(what), want[what]);
        }
        int[] wrong = {-1, 6, MIN, MAX};
        for (int x : wrong) {
            due("19 count " + x, town.count(x), -1);
        }
    }
}
