/** Promises 10 and 11: coinByte, letterByte. */
public final class BytesTest {
    private static final int MIN = Town.MIN;
    private static final int MAX = Town.MAX;
    private static final int NONE = Town.NONE;

    private BytesTest() {
    }

    public static void main(String[] args) {
        Checks.runAll(BytesTest.class);
    }

    // Promise 10: Byte i, 0 .. 19, of coin index of a scroll (index 0: NONE); NONE if there is none such.

    static void promise10TheBytesOfEachCoin() {
        byte[][] coins = Checks.coins(0x0102030405060708L, 20);
        Town town = Town.rich();
        town.buy(0, 20, 1, 1, 0x0102030405060708L, 1, 0);
        for (int index = 1; index <= 20; index++) {
            town.coinIs(0, index, coins[index]);
        }
    }

    static void promise10PlacesAtBothEnds() {
        byte[] coin = Checks.coins(5, 3)[2];
        Town town = Town.rich();
        town.buy(0, 3, 1, 1, 5, 1, 0);
        town.coinByte(0, 2, -1, NONE);
        town.coinByte(0, 2, 0, coin[0] & 255);
        town.coinByte(0, 2, 19, coin[19] & 255);
        town.coinByte(0, 2, 20, NONE);
        town.coinByte(0, 2, MIN, NONE);
        town.coinByte(0, 2, MAX, NONE);
    }

    static void promise10Index0() {
        Town town = Town.rich();
        town.buy(0, 3, 1, 255, 5, 1, 0);
        for (int i = -1; i <= 20; i++) {
            town.coinByte(0, 0, i, NONE);
        }
    }

    static void promise10IndexesAtBothEnds() {
        int[] sizes = {1, 2, 59, 60};
        for (int n : sizes) {
            byte[][] coins = Checks.coins(5, n);
            Town town = Town.rich();
            town.buy(0, n, 1, 255, 5, 1, 0);
            town.coinByte(0, -1, 0, NONE);
            town.coinIs(0, 1, coins[1]);
            town.coinIs(0, n, coins[n]);
            town.coinByte(0, n + 1, 0, NONE);
            town.coinByte(0, 61, 0, NONE);
            town.coinByte(0, MIN, 0, NONE);
            town.coinByte(0, MAX, 0, NONE);
        }
    }

    static void promise10ScrollsAtBothEnds() {
        Town town = Town.rich();
        town.coinByte(0, 1, 0, NONE);
        for (int s = 0; s <= 15; s++) {
            town.buy(0, 1, 1, 1, 100 + s, 1, s);
            town.coinByte(s + 1, 1, 0, NONE);
        }
        for (int s = 0; s <= 15; s++) {
            town.coinIs(s, 1, Checks.coins(100 + s, 1)[1]);
        }
        town.coinByte(-1, 1, 0, NONE);
        town.coinByte(16, 1, 0, NONE);
        town.coinByte(MIN, 1, 0, NONE);
        town.coinByte(MAX, 1, 0, NONE);
    }

    static void promise10EachScrollHasItsOwnN() {
        Town town = Town.rich();
        town.buy(0, 5, 1, 1, 1, 1, 0);
        town.buy(0, 2, 1, 1, 2, 1, 1);
        town.buy(0, 5, 1, 1, 3, 1, 2);
        town.coinByte(1, 3, 0, NONE);
        town.coinByte(1, 5, 0, NONE);
        town.coinByte(0, 5, 0, Checks.coins(1, 5)[5][0] & 255);
        town.coinByte(2, 5, 0, Checks.coins(3, 5)[5][0] & 255);
    }

    static void promise10CoinsStayAsTheyAre() {
        byte[][] coins = Checks.coins(Town.SEED, 5);
        Town town = Town.withScroll(5);
        town.pay(0, 0, 3, 0, 60);
        town.empty(0, 1);
        town.today(18, true);
        town.settle(1);
        for (int index = 1; index <= 5; index++) {
            town.coinIs(0, index, coins[index]);
        }
    }

    // Promise 11: Byte i of a scroll's letter, 0 .. 203 (the last 32 are the code); NONE if there is none such.

    static void promise11TheWholeLetter() {
        Town town = new Town();
        town.newWeek(-3, Long.MIN_VALUE, 1);
        town.money(1, 60000, true);
        town.today(70000, true);
        town.buy(1, 60, 1000, 255, -9, 60, 0);
        town.letterIs(0, Checks.letter(0, 60, 1000, 70060, 255, Checks.coins(-9, 60)[1], Checks.key(-3, Long.MIN_VALUE)));
    }

    static void promise11PlacesAtBothEnds() {
        byte[] letter = Checks.letter(0, 5, 10, 10, 255, Checks.coins(Town.SEED, 5)[1], Checks.key(1, 2));
        Town town = Town.withScroll(5);
        town.letterByte(0, -1, NONE);
        town.letterByte(0, 0, 0);
        town.letterByte(0, 203, letter[203] & 255);
        town.letterByte(0, 204, NONE);
        town.letterByte(0, MIN, NONE);
        town.letterByte(0, MAX, NONE);
    }

    static void promise11TheLast32AreTheCode() {
        byte[] letter = Checks.letter(0, 5, 10, 10, 255, Checks.coins(Town.SEED, 5)[1], Checks.key(1, 2));
        byte[] code = Checks.code(Checks.key(1, 2), java.util.Arrays.copyOf(letter, 172));
        Town town = Town.withScroll(5);
        town.letterByte(0, 171, letter[171] & 255);
        for (int i = 0; i < 32; i++) {
            town.letterByte(0, 172 + i, code[i] & 255);
        }
    }

    static void promise11ScrollsAtBothEnds() {
        Town town = Town.rich();
        town.letterByte(0, 1, NONE);
        for (int s = 0; s <= 15; s++) {
            town.buy(0, 1 + s, 1, 1, s, 1, s);
            town.letterByte(s + 1, 1, NONE);
        }
        for (int s = 0; s <= 15; s++) {
            town.letterByte(s, 1, s);
            town.letterByte(s, 3, 1 + s);
        }
        town.letterByte(-1, 0, NONE);
        town.letterByte(16, 0, NONE);
        town.letterByte(MIN, 0, NONE);
        town.letterByte(MAX, 0, NONE);
    }

    static void promise11LettersStayAsTheyAre() {
        byte[] letter = Checks.letter(0, 3, 10, 10, 255, Checks.coins(Town.SEED, 3)[1], Checks.key(1, 2));
        Town town = Town.withBlocked(255);
        town.newWeek(3, 4, 2);
        town.today(18, true);
        town.settle(1);
        town.letterIs(0, letter);
    }
}
