import java.util.Random;

/** Runs of some 500 calls with drawn arguments (from written seeds), each answer compared with the model's. */
public final class ModelTest {
    private static final int RUNS = 1500;
    /** Nothing is promised behind the 512th call: an offer takes 23 calls, and the look at the end 29. */
    private static final int CALLS_BEFORE_THE_LAST_STEP = 512 - 23 - 29;
    private static final int[] ODD = {-1, Integer.MIN_VALUE, Integer.MAX_VALUE, 8, 16, 20, 51, 61, 204, 256, 1001};

    private final Random random;
    private final String run;
    private final ScrollTown town = new ScrollTown();
    private final TownModel model = new TownModel();
    private int calls;

    private ModelTest(int seed) {
        random = new Random(seed);
        run = "run " + seed + ": ";
    }

    public static void main(String[] args) {
        Checks.watch();
        for (int seed = 0; seed < RUNS && !Checks.anyWrong(); seed++) {
            new ModelTest(seed).play(seed);
        }
        Checks.end();
    }

    private void play(int seed) {
        if (seed % 3 != 0) {
            prepare();
        }
        while (calls < CALLS_BEFORE_THE_LAST_STEP && !Checks.anyWrong()) {
            step();
        }
        look();
        if (calls > 512) {
            Checks.fail(run + "the test itself makes " + calls + " calls");
        }
    }

    private void prepare() {
        newWeek();
        for (int p = 0; p < 4; p++) {
            due("money " + p, town.money(p, 100000), model.money(p, 100000));
        }
        for (int s = 0; s < 8; s++) {
            buy();
        }
        for (int m = 0; m < 8; m++) {
            due("empty " + m, town.empty(m), model.empty(m));
        }
    }

    private void due(String call, long got, long want) {
        calls++;
        Checks.due(run + "call " + calls + ": " + call, got, want);
    }

    private void due(String call, boolean got, boolean want) {
        due(call, got ? 1 : 0, want ? 1 : 0);
    }

    /** A number from least to most; now and then an odd one, or one just outside. */
    private int near(int least, int most) {
        int kind = random.nextInt(40);
        if (kind == 0) {
            return ODD[random.nextInt(ODD.length)];
        }
        if (kind == 1) {
            return random.nextBoolean() ? least - 1 : most + 1;
        }
        if (kind == 2) {
            return random.nextBoolean() ? least : most;
        }
        return least + random.nextInt(most - least + 1);
    }

    private int scroll() {
        return near(0, Math.max(0, model.count(0) - 1));
    }

    private int meter() {
        return random.nextInt(3) == 0 ? near(0, 7) : random.nextInt(3);
    }

    private void newWeek() {
        long first = random.nextInt(3) == 0 ? 0 : random.nextLong();
        due("newWeek", town.newWeek(first, first), model.newWeek(first, first));
    }

    private void buy() {
        int p = near(0, 3);
        int n = random.nextInt(3) == 0 ? near(1, 60) : near(1, 9);
        int cents = random.nextInt(20) == 0 ? near(1, 1000) : near(1, 30);
        int set = random.nextBoolean() ? 255 : near(1, 255);
        int days = near(1, 60);
        long seed = random.nextLong();
        due("buy", town.buy(p, n, cents, set, seed, days), model.buy(p, n, cents, set, seed, days));
    }

    private void step() {
        int kind = random.nextInt(100);
        if (kind < 2) {
            newWeek();
        } else if (kind < 5) {
            int day = random.nextInt(20) == 0 ? near(0, 1000000) : model.count(4) + near(0, 4);
            // A jump to the end of all days would leave the rest of the run without a valid scroll.
            if (day <= model.count(4) + 100 || day > 1000000 || calls > 400) {
                due("today " + day, town.today(day), model.today(day));
            }
        } else if (kind < 7) {
            int p = near(0, 7);
            long cents = random.nextInt(9) == 0 ? random.nextLong() : near(0, 300);
            due("money", town.money(p, cents), model.money(p, cents));
        } else if (kind < 11) {
            buy();
        } else if (kind < 30) {
            int s = scroll();
            int m = meter();
            due("insert " + s + " " + m, town.insert(s, m), model.insert(s, m));
        } else if (kind < 55) {
            pay();
        } else if (kind < 60) {
            offer();
        } else if (kind < 63) {
            int m = meter();
            int writes = near(0, 3);
            due("powerCut", town.powerCut(m, writes), model.powerCut(m, writes));
        } else if (kind < 70) {
            int m = meter();
            due("empty " + m, town.empty(m), model.empty(m));
        } else if (kind < 74) {
            due("settle", town.settle(), model.settle());
        } else {
            ask(kind % 8);
        }
    }

    private void pay() {
        int s = scroll();
        int m = meter();
        int k = random.nextInt(4) == 0 ? near(1, 50) : near(1, 4);
        int plate = near(0, 15);
        due("pay " + s + " " + m + " " + k + " " + plate, town.pay(s, m, k, plate), model.pay(s, m, k, plate));
    }

    private void offer() {
        int s = scroll();
        int m = meter();
        int spent = Math.max(0, model.spent(s, m));
        int index = random.nextInt(4) == 0 ? near(1, 60) : spent + near(1, 3);
        int shown = random.nextInt(6) == 0 ? index - 1 : index;
        for (int i = 0; i < 20; i++) {
            int b = Math.max(0, model.coinByte(s, shown, i)) + 256 * random.nextInt(9);
            due("poke " + i + " " + b, town.poke(i, b), model.poke(i, b));
        }
        if (random.nextInt(6) == 0) {
            int i = near(0, 19);
            int b = random.nextInt();
            due("poke " + i + " " + b, town.poke(i, b), model.poke(i, b));
        }
        int plate = near(0, 15);
        due("offer " + s + " " + m + " " + index, town.offer(s, m, index, plate), model.offer(s, m, index, plate));
        due("offer again", town.offer(s, m, index, plate), model.offer(s, m, index, plate));
    }

    private void ask(int kind) {
        int s = scroll();
        int m = meter();
        int i = near(0, 203);
        int index = near(1, 9);
        switch (kind) {
            case 0: due("coinByte", town.coinByte(s, index, i % 24), model.coinByte(s, index, i % 24)); break;
            case 1: due("letterByte", town.letterByte(s, i), model.letterByte(s, i)); break;
            case 2: due("account " + i % 20, town.account(i % 20), model.account(i % 20)); break;
            case 3: due("spent", town.spent(s, m), model.spent(s, m)); break;
            case 4: due("overspent", town.overspent(s), model.overspent(s)); break;
            case 5: due("minutes", town.minutes(m, i % 18), model.minutes(m, i % 18)); break;
            default: due("count " + i % 8, town.count(i % 8), model.count(i % 8)); break;
        }
    }

    private void look() {
        for (int which = -1; which < 20; which++) {
            due("account " + which, town.account(which), model.account(which));
        }
        for (int what = -1; what < 7; what++) {
            due("count " + what, town.count(what), model.count(what));
        }
    }
}
