import java.util.ArrayList;
import java.util.List;

/**
 * 'A refused call (false, NONE and below, where nothing else is said) changes nothing.' Two towns have
 * the same past; one of them refuses some calls; from then on both must answer alike, whatever is asked.
 */
public final class RefusalTest {
    private static final int MIN = Town.MIN;
    private static final int MAX = Town.MAX;
    private static final int[] NO_METERS = {-1, 8, MIN, MAX};
    private static final int[] NO_SCROLLS = {-1, 9, 16, MIN, MAX};
    private static final int[] NO_PLATES = {-1, 16, MIN, MAX};

    /** Calls on a town, whose answers are written down. */
    private interface Calls {
        void on(ScrollTown town, Answers answers);
    }

    /** The answers of a town in their order, and which of its calls were not refused. */
    private static final class Answers {
        final List<Long> all = new ArrayList<>();
        int done;

        void add(long answer) {
            all.add(answer);
            done += answer >= 0 ? 1 : 0;
        }

        void add(boolean answer) {
            add(answer ? 1 : -1);
        }
    }

    private RefusalTest() {
    }

    public static void main(String[] args) {
        Checks.runAll(RefusalTest.class);
    }

    static void today() {
        changesNothing((town, answers) -> {
            answers.add(town.today(19));
            answers.add(town.today(0));
            answers.add(town.today(-1));
            answers.add(town.today(MIN));
            answers.add(town.today(1000001));
            answers.add(town.today(MAX));
        });
    }

    static void money() {
        changesNothing((town, answers) -> {
            answers.add(town.money(-1, 1));
            answers.add(town.money(8, 1));
            answers.add(town.money(0, 0));
            answers.add(town.money(0, -1));
            answers.add(town.money(0, 1000000001));
            answers.add(town.money(0, Long.MAX_VALUE));
            answers.add(town.money(0, Long.MIN_VALUE));
        });
    }

    static void buy() {
        changesNothing((town, answers) -> {
            answers.add(town.buy(-1, 1, 1, 1, 9, 1));
            answers.add(town.buy(8, 1, 1, 1, 9, 1));
            answers.add(town.buy(0, 0, 1, 1, 9, 1));
            answers.add(town.buy(0, 61, 1, 1, 9, 1));
            answers.add(town.buy(0, 1, 0, 1, 9, 1));
            answers.add(town.buy(0, 1, 1001, 1, 9, 1));
            answers.add(town.buy(0, 1, 1, 0, 9, 1));
            answers.add(town.buy(0, 1, 1, 256, 9, 1));
            answers.add(town.buy(0, 1, 1, 1, 9, 0));
            answers.add(town.buy(0, 1, 1, 1, 9, 61));
            answers.add(town.buy(1, 60, 1000, 255, 9, 60));
        });
    }

    static void buyWithoutAWeek() {
        Calls before = (town, answers) -> answers.add(town.money(0, 100));
        changesNothing(before, (town, answers) -> answers.add(town.buy(0, 1, 1, 1, 9, 1)));
    }

    static void buyASeventeenth() {
        Calls before = (town, answers) -> {
            past(town, answers);
            for (int s = 9; s < 16; s++) {
                answers.add(town.buy(0, 1, 1, 255, s, 60));
            }
        };
        changesNothing(before, (town, answers) -> answers.add(town.buy(0, 1, 1, 255, 9, 1)));
    }

    static void insert() {
        changesNothing((town, answers) -> {
            for (int s : NO_SCROLLS) {
                answers.add(town.insert(s, 0));
            }
            for (int m : NO_METERS) {
                answers.add(town.insert(8, m));
            }
        });
    }

    /** These answers say why a scroll is not on the list from then on, so they change nothing either. */
    static void insertWithAnswers1To6() {
        changesNothing((town, answers) -> {
            answers.add(-town.insert(3, 0));
            answers.add(-town.insert(2, 3));
            answers.add(-town.insert(7, 0));
            answers.add(-town.insert(1, 0));
            answers.add(-town.insert(0, 2));
            answers.add(-town.insert(8, 1));
        });
        ScrollTown town = new ScrollTown();
        past(town, new Answers());
        Checks.due("on the list", town.insert(3, 0), 1);
        Checks.due("no key", town.insert(2, 3), 2);
        Checks.due("not in the set", town.insert(7, 0), 3);
        Checks.due("behind the end", town.insert(1, 0), 4);
        Checks.due("blocked", town.insert(0, 2), 5);
        Checks.due("full", town.insert(8, 1), 6);
    }

    static void pay() {
        changesNothing((town, answers) -> {
            for (int s : NO_SCROLLS) {
                answers.add(town.pay(s, 0, 1, 0));
            }
            for (int m : NO_METERS) {
                answers.add(town.pay(3, m, 1, 0));
            }
            for (int plate : NO_PLATES) {
                answers.add(town.pay(3, 0, 1, plate));
            }
            answers.add(town.pay(3, 0, 0, 0));
            answers.add(town.pay(3, 0, 51, 0));
            answers.add(town.pay(3, 0, -1, 0));
            answers.add(town.pay(8, 0, 1, 0));
            answers.add(town.pay(1, 1, 1, 0));
            answers.add(town.pay(3, 0, 8, 0));
        });
    }

    static void offer() {
        changesNothing((town, answers) -> {
            for (int s : NO_SCROLLS) {
                answers.add(town.offer(s, 0, 6, 0));
            }
            for (int m : NO_METERS) {
                answers.add(town.offer(3, m, 6, 0));
            }
            for (int plate : NO_PLATES) {
                answers.add(town.offer(3, 0, 6, plate));
            }
            answers.add(town.offer(8, 0, 6, 0));
            answers.add(town.offer(1, 1, 6, 0));
            answers.add(town.offer(3, 0, 2, 0));
            answers.add(town.offer(3, 0, 10, 0));
            answers.add(town.offer(3, 0, 5, 0));
            answers.add(town.offer(3, 0, 7, 0));
        });
    }

    static void poke() {
        changesNothing((town, answers) -> {
            answers.add(town.poke(-1, 200));
            answers.add(town.poke(20, 200));
            answers.add(town.poke(MIN, 200));
            answers.add(town.poke(MAX, 200));
        });
    }

    static void powerCut() {
        changesNothing((town, answers) -> {
            for (int m : NO_METERS) {
                answers.add(town.powerCut(m, 0));
            }
            for (int m = 0; m < 8; m++) {
                answers.add(town.powerCut(m, -1));
                answers.add(town.powerCut(m, 4));
            }
        });
    }

    static void empty() {
        changesNothing((town, answers) -> {
            for (int m : NO_METERS) {
                answers.add(town.empty(m));
            }
        });
    }

    static void looking() {
        changesNothing((town, answers) -> {
            answers.add(town.coinByte(3, 0, 0));
            answers.add(town.coinByte(3, 1, 20));
            answers.add(town.coinByte(9, 1, 0));
            answers.add(town.letterByte(3, 204));
            answers.add(town.letterByte(9, 0));
            answers.add(town.account(3));
            answers.add(town.account(18));
            answers.add(town.spent(8, 0));
            answers.add(town.overspent(9));
            answers.add(town.minutes(8, 0));
            answers.add(town.minutes(0, 16));
            answers.add(town.count(6));
        });
    }

    /** The cut is used up, and else all is as if there had been neither the cut nor the call. */
    static void cutOff() {
        for (int writes = 0; writes <= 2; writes++) {
            ScrollTown cut = new ScrollTown();
            past(cut, new Answers());
            cut.powerCut(0, writes);
            Checks.due("pay", cut.pay(3, 0, 2, 0), Town.CUT_OFF);
            cut.powerCut(0, writes);
            Checks.due("offer", cut.offer(3, 0, 6, 0), Town.CUT_OFF);
            cut.powerCut(2, writes);
            Checks.due("insert", cut.insert(8, 2), Town.CUT_OFF);
            ScrollTown other = new ScrollTown();
            past(other, new Answers());
            same(other, cut);
        }
    }

    private static void changesNothing(Calls refused) {
        changesNothing(RefusalTest::past, refused);
    }

    private static void changesNothing(Calls before, Calls refused) {
        ScrollTown plain = new ScrollTown();
        Answers past = new Answers();
        before.on(plain, past);
        Checks.due("calls of the past that were not refused", past.done, past.all.size());
        ScrollTown refusing = new ScrollTown();
        before.on(refusing, new Answers());
        Answers answers = new Answers();
        refused.on(refusing, answers);
        Checks.due("calls that were not refused in " + answers.all, answers.done, 0);
        same(plain, refusing);
    }

    private static void same(ScrollTown plain, ScrollTown other) {
        Answers due = new Answers();
        future(plain, due);
        Answers got = new Answers();
        future(other, got);
        for (int i = 0; i < due.all.size(); i++) {
            Checks.due("answer " + i + " later", got.all.get(i), due.all.get(i));
        }
    }

    /**
     * On day 20, in week 3: scroll 0 is blocked, which meter 2 knows; scroll 1 has ended and is on the list
     * of meter 1, which is full; scroll 7 is for meter 7 only; meter 3 knows of week 1 alone, when no scroll
     * was bought; meter 0 took 2 of the 9 coins of scroll 3, coin 6 of which is in the buffer; at meter 4
     * power is about to be cut; some coins were read and not settled, some taken and not read.
     */
    private static void past(ScrollTown town, Answers answers) {
        answers.add(town.newWeek(5, 6));
        answers.add(town.money(0, 100000));
        answers.add(town.money(1, 50));
        answers.add(town.empty(3));
        answers.add(town.newWeek(7, 8));
        answers.add(town.newWeek(9, 10));
        int[] days = {60, 19, 60, 60, 60, 60, 60, 60, 60};
        for (int s = 0; s < 9; s++) {
            answers.add(town.buy(s % 2 == 1 && s < 3 ? 1 : 0, 9, 2 + s, s == 7 ? 128 : 255, 40 + s, days[s]));
        }
        answers.add(town.empty(0));
        answers.add(town.empty(1));
        answers.add(town.empty(4));
        for (int s = 0; s < 6; s++) {
            answers.add(town.insert(s, 1));
        }
        answers.add(town.insert(0, 0));
        answers.add(town.insert(3, 0));
        answers.add(town.insert(4, 4));
        answers.add(town.pay(0, 0, 9, 1));
        answers.add(town.pay(0, 1, 4, 1));
        answers.add(town.empty(0));
        answers.add(town.empty(1));
        answers.add(town.settle());
        answers.add(town.empty(2));
        answers.add(town.pay(3, 1, 5, 2));
        answers.add(town.empty(1));
        answers.add(town.today(20));
        answers.add(town.pay(3, 0, 2, 0));
        answers.add(town.powerCut(4, 1));
        byte[] coin = Checks.coins(43, 9)[6];
        for (int i = 0; i < 20; i++) {
            answers.add(town.poke(i, coin[i]));
        }
    }

    /** Looks at all there is, and goes on so that what can't be seen at once is seen later. */
    private static void future(ScrollTown town, Answers answers) {
        look(town, answers);
        answers.add(town.offer(3, 0, 6, 1));
        for (int s = 0; s < 9; s++) {
            answers.add(town.pay(s, s % 5, 1, 0));
            answers.add(town.insert(s, 2));
            answers.add(town.insert(s, 3));
            answers.add(town.insert(s, 4));
        }
        answers.add(town.settle());
        answers.add(town.account(1));
        for (int m = 0; m < 8; m++) {
            answers.add(town.empty(m));
        }
        answers.add(town.settle());
        answers.add(town.buy(0, 3, 1, 255, 1, 1));
        answers.add(town.newWeek(1, 1));
        look(town, answers);
        answers.add(town.today(100));
        answers.add(town.settle());
        for (int which = 0; which < 18; which++) {
            answers.add(town.account(which));
        }
    }

    private static void look(ScrollTown town, Answers answers) {
        for (int which = 0; which < 18; which++) {
            answers.add(town.account(which));
        }
        for (int what = 0; what < 6; what++) {
            answers.add(town.count(what));
        }
        for (int s = 0; s < 9; s++) {
            answers.add(town.overspent(s));
            for (int m = 0; m < 5; m++) {
                answers.add(town.spent(s, m));
            }
        }
        for (int m = 0; m < 5; m++) {
            for (int plate = 0; plate < 3; plate++) {
                answers.add(town.minutes(m, plate));
            }
        }
    }
}
