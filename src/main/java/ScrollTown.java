/**
 * Parking paid by coins of a chain: motorists buy scrolls of coins, meters take coins that lead
 * to the last one they took, and an office empties the meters and settles each scroll.
 */
public final class ScrollTown {
    public static final int NONE = -1;
    public static final int NOT_HERE = -2;
    public static final int NO_INDEX = -3;
    public static final int NO_COIN = -4;
    public static final int CUT_OFF = -5;

    private static final int MOTORISTS = 8;
    private static final int METERS = 8;
    private static final int SCROLLS = 16;
    private static final int PLATES = 16;
    private static final int LAST_DAY = 1000000;
    private static final long MOST_MONEY = 1000000000L;
    private static final int MOST_COINS = 60;
    private static final int MOST_CENTS = 1000;
    private static final int ALL_METERS = 255;
    private static final int MOST_DAYS = 60;
    private static final int DAYS_TO_CLOSE = 7;
    private static final int FIRST_PURSE = 10;

    private static final int MOST_ON_LIST = 6;
    private static final int MOST_STEPS = 50;
    private static final int MINUTES_A_CENT = 2;
    private static final int WRITES_OF_A_CHANGE = 3;

    private static final int KEY_BYTES = 16;
    private static final int COIN_BYTES = 20;
    private static final int HEADS_AT = 12;
    private static final int CODE_AT = 172;
    private static final int CODE_BYTES = 32;
    private static final int LETTER_BYTES = 204;

    private final Hash hash;
    private final long[] purses;
    private final Scroll[] scrolls;
    private final Meter[] meters;
    private final byte[] buffer;
    private final byte[] key;
    private final byte[] keyBefore;
    private int week;
    private int day;
    private int bought;
    private long floatCents;
    private long townCents;

    public ScrollTown() {
        hash = new Hash();
        purses = new long[MOTORISTS];
        scrolls = new Scroll[SCROLLS];
        meters = new Meter[METERS];
        for (int m = 0; m < METERS; m++) {
            meters[m] = new Meter(m);
        }
        buffer = new byte[COIN_BYTES];
        key = new byte[KEY_BYTES];
        keyBefore = new byte[KEY_BYTES];
    }

    public int newWeek(long first, long second) {
        System.arraycopy(key, 0, keyBefore, 0, KEY_BYTES);
        writeNumber(key, 0, 8, first);
        writeNumber(key, 8, 8, second);
        week++;
        return week;
    }

    public boolean today(int day) {
        if (day < this.day || day > LAST_DAY) {
            return false;
        }
        // The same day said again is no new day: what was paid on it stays.
        if (day > this.day) {
            this.day = day;
            for (int m = 0; m < METERS; m++) {
                meters[m].forgetMinutes();
            }
        }
        return true;
    }

    public boolean money(int motorist, long cents) {
        if (!isMotorist(motorist) || cents < 1 || cents > MOST_MONEY) {
            return false;
        }
        purses[motorist] += cents;
        return true;
    }

    public int buy(int motorist, int n, int cents, int set, long seed, int days) {
        if (!isMotorist(motorist) || week == 0 || bought >= SCROLLS) {
            return NONE;
        }
        if (!isWithin(n, 1, MOST_COINS) || !isWithin(cents, 1, MOST_CENTS)) {
            return NONE;
        }
        if (!isWithin(set, 1, ALL_METERS) || !isWithin(days, 1, MOST_DAYS)) {
            return NONE;
        }
        long price = (long) n * cents;
        if (purses[motorist] < price) {
            return NONE;
        }
        Scroll scroll = new Scroll(bought, motorist, n, cents, set, day + days);
        scroll.mint(seed, hash);
        scroll.write(key, hash);
        scrolls[bought] = scroll;
        bought++;
        purses[motorist] -= price;
        floatCents += price;
        return scroll.number;
    }

    public int insert(int scroll, int meter) {
        Scroll shown = scrollOf(scroll);
        Meter asked = meterOf(meter);
        if (shown == null || asked == null) {
            return NONE;
        }
        int refusal = asked.refusal(shown, day, hash);
        if (refusal != 0) {
            return refusal;
        }
        if (!asked.powerLasts()) {
            return CUT_OFF;
        }
        asked.enlist(shown);
        return 0;
    }

    public int pay(int scroll, int meter, int k, int plate) {
        Scroll payer = scrollOf(scroll);
        Meter paid = meterOf(meter);
        if (payer == null || paid == null || !isPlate(plate) || !isWithin(k, 1, MOST_STEPS)) {
            return NONE;
        }
        if (!paid.honours(payer, day)) {
            return NOT_HERE;
        }
        int index = paid.indexes[payer.number] + k;
        if (!payer.hasCoin(index)) {
            return NO_INDEX;
        }
        // The scroll's own coin leads to the last one, so NO_COIN can't come back here.
        return hand(payer, paid, index, payer.coins, payer.coinAt(index), plate);
    }

    public int offer(int scroll, int meter, int index, int plate) {
        Scroll payer = scrollOf(scroll);
        Meter paid = meterOf(meter);
        if (payer == null || paid == null || !isPlate(plate)) {
            return NONE;
        }
        if (!paid.honours(payer, day)) {
            return NOT_HERE;
        }
        if (!payer.hasCoin(index) || !paid.isNext(payer, index)) {
            return NO_INDEX;
        }
        return hand(payer, paid, index, buffer, 0, plate);
    }

    public boolean poke(int i, int b) {
        if (!isWithin(i, 0, COIN_BYTES - 1)) {
            return false;
        }
        buffer[i] = (byte) b;
        return true;
    }

    public int coinByte(int scroll, int index, int i) {
        Scroll asked = scrollOf(scroll);
        if (asked == null || !asked.hasCoin(index) || !isWithin(i, 0, COIN_BYTES - 1)) {
            return NONE;
        }
        return asked.coins[asked.coinAt(index) + i] & 255;
    }

    public int letterByte(int scroll, int i) {
        Scroll asked = scrollOf(scroll);
        if (asked == null || !isWithin(i, 0, LETTER_BYTES - 1)) {
            return NONE;
        }
        return asked.letter[i] & 255;
    }

    public boolean powerCut(int meter, int writes) {
        Meter cut = meterOf(meter);
        if (cut == null || !isWithin(writes, 0, WRITES_OF_A_CHANGE)) {
            return false;
        }
        cut.writes = writes;
        return true;
    }

    public int empty(int meter) {
        Meter emptied = meterOf(meter);
        if (emptied == null) {
            return NONE;
        }
        int found = emptied.listed;
        for (int s = 0; s < bought; s++) {
            readOut(emptied, scrolls[s]);
        }
        System.arraycopy(key, 0, emptied.key, 0, KEY_BYTES);
        System.arraycopy(keyBefore, 0, emptied.keyBefore, 0, KEY_BYTES);
        emptied.keys = Math.min(week, 2);
        return found;
    }

    public int settle() {
        int closed = 0;
        for (int s = 0; s < bought; s++) {
            Scroll scroll = scrolls[s];
            for (int m = 0; m < METERS; m++) {
                long cents = scroll.settleAt(m);
                floatCents -= cents;
                townCents += cents;
            }
            if (!scroll.closed && day - scroll.end > DAYS_TO_CLOSE) {
                giveBack(scroll);
                closed++;
            }
        }
        return closed;
    }

    public long account(int which) {
        if (which == 0) {
            return inAllPurses();
        }
        if (which == 1) {
            return floatCents;
        }
        if (which == 2) {
            return townCents;
        }
        if (isWithin(which, FIRST_PURSE, FIRST_PURSE + MOTORISTS - 1)) {
            return purses[which - FIRST_PURSE];
        }
        return NONE;
    }

    public int spent(int scroll, int meter) {
        Scroll asked = scrollOf(scroll);
        Meter at = meterOf(meter);
        if (asked == null || at == null || !at.onList[asked.number]) {
            return NONE;
        }
        return at.indexes[asked.number];
    }

    public int overspent(int scroll) {
        Scroll asked = scrollOf(scroll);
        return asked == null ? NONE : asked.overspentCoins;
    }

    public int minutes(int meter, int plate) {
        Meter asked = meterOf(meter);
        if (asked == null || !isPlate(plate)) {
            return NONE;
        }
        return asked.minutesOf[plate];
    }

    public int count(int what) {
        switch (what) {
            case 0:
                return bought;
            case 1:
                return onAllLists();
            case 2:
                return blockedScrolls();
            case 3:
                return closedScrolls();
            case 4:
                return day;
            case 5:
                return week;
            default:
                return NONE;
        }
    }

    /** Hands a meter the coin that stands in a row, with an index that can be. */
    private int hand(Scroll payer, Meter paid, int index, byte[] row, int at, int plate) {
        if (!paid.isGood(payer, index, row, at, hash)) {
            return NO_COIN;
        }
        if (!paid.powerLasts()) {
            return CUT_OFF;
        }
        int minutes = paid.take(payer, index, row, at);
        paid.minutesOf[plate] += minutes;
        return minutes;
    }

    private void readOut(Meter emptied, Scroll scroll) {
        int s = scroll.number;
        if (emptied.onList[s]) {
            scroll.read[emptied.number] = emptied.indexes[s];
            if (scroll.isOver(day)) {
                emptied.strike(scroll);
            }
        }
        emptied.blocked[s] = scroll.blocked;
    }

    private void giveBack(Scroll scroll) {
        long cents = (long) (scroll.n - scroll.gone) * scroll.cents;
        floatCents -= cents;
        purses[scroll.owner] += cents;
        scroll.gone = scroll.n;
        scroll.closed = true;
    }

    private long inAllPurses() {
        long sum = 0;
        for (int p = 0; p < MOTORISTS; p++) {
            sum += purses[p];
        }
        return sum;
    }

    private int onAllLists() {
        int sum = 0;
        for (int m = 0; m < METERS; m++) {
            sum += meters[m].listed;
        }
        return sum;
    }

    private int blockedScrolls() {
        int sum = 0;
        for (int s = 0; s < bought; s++) {
            sum += scrolls[s].blocked ? 1 : 0;
        }
        return sum;
    }

    private int closedScrolls() {
        int sum = 0;
        for (int s = 0; s < bought; s++) {
            sum += scrolls[s].closed ? 1 : 0;
        }
        return sum;
    }

    private Scroll scrollOf(int number) {
        return isWithin(number, 0, bought - 1) ? scrolls[number] : null;
    }

    private Meter meterOf(int number) {
        return isWithin(number, 0, METERS - 1) ? meters[number] : null;
    }

    private static boolean isMotorist(int number) {
        return isWithin(number, 0, MOTORISTS - 1);
    }

    private static boolean isPlate(int number) {
        return isWithin(number, 0, PLATES - 1);
    }

    private static boolean isWithin(int number, int least, int most) {
        return number >= least && number <= most;
    }

    /** Writes a number's lowest bytes into a row, the highest byte first. */
    private static void writeNumber(byte[] row, int at, int bytes, long number) {
        for (int i = 0; i < bytes; i++) {
            row[at + i] = (byte) (number >>> (8 * (bytes - 1 - i)));
        }
    }

    private static boolean sameBytes(byte[] one, int oneAt, byte[] other, int otherAt, int bytes) {
        for (int i = 0; i < bytes; i++) {
            if (one[oneAt + i] != other[otherAt + i]) {
                return false;
            }
        }
        return true;
    }

    /** A scroll as the office knows it: its coins and letter, and how far it was settled. */
    private static final class Scroll {
        final int number;
        final int owner;
        final int n;
        final int cents;
        final int set;
        final int end;
        final byte[] coins;
        final byte[] letter;
        final int[] read;
        final int[] settled;
        int gone;
        int overspentCoins;
        boolean blocked;
        boolean closed;

        Scroll(int number, int owner, int n, int cents, int set, int end) {
            this.number = number;
            this.owner = owner;
            this.n = n;
            this.cents = cents;
            this.set = set;
            this.end = end;
            coins = new byte[n * COIN_BYTES];
            letter = new byte[LETTER_BYTES];
            read = new int[METERS];
            settled = new int[METERS];
        }

        boolean hasCoin(int index) {
            return isWithin(index, 1, n);
        }

        int coinAt(int index) {
            return (index - 1) * COIN_BYTES;
        }

        boolean isFor(int meter) {
            return (set >> meter & 1) == 1;
        }

        boolean isOver(int day) {
            return day > end;
        }

        void mint(long seed, Hash hash) {
            hash.begin();
            hash.addNumber(seed, 8);
            hash.finish(coins, coinAt(n), COIN_BYTES);
            for (int i = n - 1; i >= 1; i--) {
                hash.cut(coins, coinAt(i + 1), coins, coinAt(i));
            }
        }

        /** Writes the letter; the coins must have been made before. */
        void write(byte[] key, Hash hash) {
            writeNumber(letter, 0, 2, number);
            writeNumber(letter, 2, 2, n);
            writeNumber(letter, 4, 2, cents);
            writeNumber(letter, 6, 4, end);
            writeNumber(letter, 10, 2, set);
            for (int m = 0; m < METERS; m++) {
                if (isFor(m)) {
                    hash.cutToHead(coins, coinAt(1), m, letter, headAt(m));
                }
            }
            hash.makeCode(key, letter, CODE_AT);
            System.arraycopy(hash.code, 0, letter, CODE_AT, CODE_BYTES);
        }

        int headAt(int meter) {
            return HEADS_AT + meter * COIN_BYTES;
        }

        /** Settles what a meter took since the last time: the cents that go to the town. */
        long settleAt(int meter) {
            int coinsTaken = read[meter] - settled[meter];
            int coinsPaid = Math.min(coinsTaken, n - gone);
            settled[meter] = read[meter];
            gone += coinsPaid;
            if (coinsTaken > coinsPaid) {
                overspentCoins += coinsTaken - coinsPaid;
                blocked = true;
            }
            return (long) coinsPaid * cents;
        }
    }

    /** A meter, which knows only what letters and coins show and what the office last told. */
    private static final class Meter {
        final int number;
        final byte[] key;
        final byte[] keyBefore;
        int keys;
        final boolean[] blocked;
        final boolean[] onList;
        int listed;
        final int[] indexes;
        /** For each scroll the coin that was taken last, at first the head. */
        final byte[] lastCoins;
        final int[] minutesOf;
        /** How many writes of the next change are made. */
        int writes;

        Meter(int number) {
            this.number = number;
            key = new byte[KEY_BYTES];
            keyBefore = new byte[KEY_BYTES];
            blocked = new boolean[SCROLLS];
            onList = new boolean[SCROLLS];
            indexes = new int[SCROLLS];
            lastCoins = new byte[SCROLLS * COIN_BYTES];
            minutesOf = new int[PLATES];
            writes = WRITES_OF_A_CHANGE;
        }

        void forgetMinutes() {
            for (int p = 0; p < PLATES; p++) {
                minutesOf[p] = 0;
            }
        }

        /** Why a letter is not taken, as insert answers it; 0 if it may be. */
        int refusal(Scroll scroll, int day, Hash hash) {
            if (onList[scroll.number]) {
                return 1;
            }
            boolean known = keys >= 1 && isCodeBy(key, scroll.letter, hash)
                || keys >= 2 && isCodeBy(keyBefore, scroll.letter, hash);
            if (!known) {
                return 2;
            }
            if (!scroll.isFor(number)) {
                return 3;
            }
            if (scroll.isOver(day)) {
                return 4;
            }
            if (blocked[scroll.number]) {
                return 5;
            }
            return listed >= MOST_ON_LIST ? 6 : 0;
        }

        private boolean isCodeBy(byte[] aKey, byte[] letter, Hash hash) {
            hash.makeCode(aKey, letter, CODE_AT);
            return sameBytes(hash.code, 0, letter, CODE_AT, CODE_BYTES);
        }

        /** Whether all writes of a change are made; a cut is used up by this. */
        boolean powerLasts() {
            boolean lasts = writes >= WRITES_OF_A_CHANGE;
            writes = WRITES_OF_A_CHANGE;
            return lasts;
        }

        void enlist(Scroll scroll) {
            int s = scroll.number;
            onList[s] = true;
            listed++;
            indexes[s] = 0;
            keepCoin(s, scroll.letter, scroll.headAt(number));
        }

        void strike(Scroll scroll) {
            onList[scroll.number] = false;
            listed--;
        }

        boolean honours(Scroll scroll, int day) {
            return onList[scroll.number] && !scroll.isOver(day);
        }

        boolean isNext(Scroll scroll, int index) {
            int last = indexes[scroll.number];
            return isWithin(index, last + 1, last + MOST_STEPS);
        }

        /** Whether the coin that stands in a row leads to the last one that was taken. */
        boolean isGood(Scroll scroll, int index, byte[] row, int at, Hash hash) {
            int last = indexes[scroll.number];
            byte[] coin = hash.coin;
            System.arraycopy(row, at, coin, 0, COIN_BYTES);
            for (int i = index; i > last; i--) {
                if (i == 1) {
                    hash.cutToHead(coin, 0, number, coin, 0);
                } else {
                    hash.cut(coin, 0, coin, 0);
                }
            }
            return sameBytes(coin, 0, lastCoins, scroll.number * COIN_BYTES, COIN_BYTES);
        }

        /** Takes a good coin: the minutes that it pays. */
        int take(Scroll scroll, int index, byte[] row, int at) {
            int steps = index - indexes[scroll.number];
            indexes[scroll.number] = index;
            keepCoin(scroll.number, row, at);
            return steps * scroll.cents * MINUTES_A_CENT;
        }

        private void keepCoin(int s, byte[] row, int at) {
            System.arraycopy(row, at, lastCoins, s * COIN_BYTES, COIN_BYTES);
        }
    }

    /** Makes HASH, CUT and CODE; its rows are used again, so that no call makes new ones. */
    private static final class Hash {
        private static final int BLOCK_BYTES = 64;
        private static final int ROUNDS = 64;
        /** Enough for the longest row of all, 64 bytes of a key and a letter's 172, and its end. */
        private static final int ROW_BYTES = 256;
        private static final int END_BYTES = 9;
        private static final int INNER_PAD = 54;
        private static final int OUTER_PAD = 92;

        private static final int[] SQUARE_ROOTS = {
            0x6a09e667, 0xbb67ae85, 0x3c6ef372, 0xa54ff53a,
            0x510e527f, 0x9b05688c, 0x1f83d9ab, 0x5be0cd19
        };
        private static final int[] CUBE_ROOTS = {
            0x428a2f98, 0x71374491, 0xb5c0fbcf, 0xe9b5dba5,
            0x3956c25b, 0x59f111f1, 0x923f82a4, 0xab1c5ed5,
            0xd807aa98, 0x12835b01, 0x243185be, 0x550c7dc3,
            0x72be5d74, 0x80deb1fe, 0x9bdc06a7, 0xc19bf174,
            0xe49b69c1, 0xefbe4786, 0x0fc19dc6, 0x240ca1cc,
            0x2de92c6f, 0x4a7484aa, 0x5cb0a9dc, 0x76f988da,
            0x983e5152, 0xa831c66d, 0xb00327c8, 0xbf597fc7,
            0xc6e00bf3, 0xd5a79147, 0x06ca6351, 0x14292967,
            0x27b70a85, 0x2e1b2138, 0x4d2c6dfc, 0x53380d13,
            0x650a7354, 0x766a0abb, 0x81c2c92e, 0x92722c85,
            0xa2bfe8a1, 0xa81a664b, 0xc24b8b70, 0xc76c51a3,
            0xd192e819, 0xd6990624, 0xf40e3585, 0x106aa070,
            0x19a4c116, 0x1e376c08, 0x2748774c, 0x34b0bcb5,
            0x391c0cb3, 0x4ed8aa4a, 0x5b9cca4f, 0x682e6ff3,
            0x748f82ee, 0x78a5636f, 0x84c87814, 0x8cc70208,
            0x90befffa, 0xa4506ceb, 0xbef9a3f7, 0xc67178f2
        };

        /** The code that was made last. */
        final byte[] code;
        /** A row for a meter that hashes a coin. */
        final byte[] coin;
        private final byte[] row;
        private int length;
        private final int[] words;
        private final int[] sums;

        Hash() {
            code = new byte[CODE_BYTES];
            coin = new byte[COIN_BYTES];
            row = new byte[ROW_BYTES];
            words = new int[ROUNDS];
            sums = new int[SQUARE_ROOTS.length];
        }

        /** CUT of a coin. */
        void cut(byte[] from, int at, byte[] to, int toAt) {
            begin();
            addBytes(from, at, COIN_BYTES);
            finish(to, toAt, COIN_BYTES);
        }

        /** CUT of a coin and a meter's number behind it. */
        void cutToHead(byte[] from, int at, int meter, byte[] to, int toAt) {
            begin();
            addBytes(from, at, COIN_BYTES);
            addNumber(meter, 1);
            finish(to, toAt, COIN_BYTES);
        }

        /** CODE of a text by a key. */
        void makeCode(byte[] key, byte[] text, int bytes) {
            beginWithKey(key, INNER_PAD);
            addBytes(text, 0, bytes);
            finish(code, 0, CODE_BYTES);
            beginWithKey(key, OUTER_PAD);
            addBytes(code, 0, CODE_BYTES);
            finish(code, 0, CODE_BYTES);
        }

        private void beginWithKey(byte[] key, int pad) {
            for (int i = 0; i < BLOCK_BYTES; i++) {
                row[i] = (byte) ((i < KEY_BYTES ? key[i] : 0) ^ pad);
            }
            length = BLOCK_BYTES;
        }

        void begin() {
            length = 0;
        }

        void addNumber(long number, int bytes) {
            writeNumber(row, length, bytes, number);
            length += bytes;
        }

        private void addBytes(byte[] from, int at, int bytes) {
            System.arraycopy(from, at, row, length, bytes);
            length += bytes;
        }

        /** Ends the row and writes the first bytes of its HASH. */
        void finish(byte[] to, int at, int bytes) {
            int end = (length + END_BYTES + BLOCK_BYTES - 1) / BLOCK_BYTES * BLOCK_BYTES;
            writeNumber(row, end - 8, 8, length * 8L);
            row[length] = (byte) 128;
            for (int i = length + 1; i < end - 8; i++) {
                row[i] = 0;
            }
            System.arraycopy(SQUARE_ROOTS, 0, sums, 0, sums.length);
            for (int from = 0; from < end; from += BLOCK_BYTES) {
                spread(from);
                mix();
            }
            for (int i = 0; i < bytes; i++) {
                to[at + i] = (byte) (sums[i >> 2] >>> (24 - 8 * (i & 3)));
            }
        }

        /** Makes the words of the rounds from a block of the row. */
        private void spread(int from) {
            for (int t = 0; t < 16; t++) {
                int i = from + 4 * t;
                words[t] = (row[i] & 255) << 24 | (row[i + 1] & 255) << 16
                    | (row[i + 2] & 255) << 8 | row[i + 3] & 255;
            }
            for (int t = 16; t < ROUNDS; t++) {
                int low = words[t - 15];
                int high = words[t - 2];
                int s0 = rot(low, 7) ^ rot(low, 18) ^ low >>> 3;
                int s1 = rot(high, 17) ^ rot(high, 19) ^ high >>> 10;
                words[t] = s1 + words[t - 7] + s0 + words[t - 16];
            }
        }

        /** Mixes the words into the sums. */
        private void mix() {
            int a = sums[0];
            int b = sums[1];
            int c = sums[2];
            int d = sums[3];
            int e = sums[4];
            int f = sums[5];
            int g = sums[6];
            int h = sums[7];
            for (int t = 0; t < ROUNDS; t++) {
                int up = h + (rot(e, 6) ^ rot(e, 11) ^ rot(e, 25)) + (e & f ^ ~e & g)
                    + CUBE_ROOTS[t] + words[t];
                int down = (rot(a, 2) ^ rot(a, 13) ^ rot(a, 22)) + (a & b ^ a & c ^ b & c);
                h = g;
                g = f;
                f = e;
                e = d + up;
                d = c;
                c = b;
                b = a;
                a = up + down;
            }
            sums[0] += a;
            sums[1] += b;
            sums[2] += c;
            sums[3] += d;
            sums[4] += e;
            sums[5] += f;
            sums[6] += g;
            sums[7] += h;
        }

        private static int rot(int x, int k) {
            return x >>> k | x << 32 - k;
        }
    }
}
