import java.util.ArrayList;
import java.util.Arrays;
import java.util.HashMap;
import java.util.HashSet;
import java.util.List;
import java.util.Map;
import java.util.Set;

/** The document told a second time, with the Java library's maps and hashes, to compare answers with. */
final class TownModel {
    private static final class Scroll {
        int owner;
        int n;
        int cents;
        int set;
        int end;
        byte[][] coins;
        byte[] letter;
        int gone;
        int over;
        boolean closed;
        final Map<Integer, Integer> read = new HashMap<>();
        final Map<Integer, Integer> settled = new HashMap<>();
    }

    private static final class Entry {
        int index;
        byte[] coin;
    }

    private static final class Meter {
        List<byte[]> keys = new ArrayList<>();
        Set<Integer> blocked = new HashSet<>();
        final Map<Integer, Entry> list = new HashMap<>();
        final Map<Integer, Integer> minutes = new HashMap<>();
        Integer cut;
    }

    private final long[] purses = new long[8];
    private final List<byte[]> weeks = new ArrayList<>();
    private final List<Scroll> scrolls = new ArrayList<>();
    private final Set<Integer> blocked = new HashSet<>();
    private final Meter[] meters = new Meter[8];
    private final byte[] buffer = new byte[20];
    private int day;
    private long floatCents;
    private long townCents;

    TownModel() {
        for (int m = 0; m < 8; m++) {
            meters[m] = new Meter();
        }
    }

    int newWeek(long first, long second) {
        weeks.add(Checks.key(first, second));
        return weeks.size();
    }

    boolean today(int newDay) {
        if (newDay < day || newDay > 1000000) {
            return false;
        }
        if (newDay != day) {
            for (Meter m : meters) {
                m.minutes.clear();
            }
        }
        day = newDay;
        return true;
    }

    boolean money(int motorist, long cents) {
        if (motorist < 0 || motorist > 7 || cents < 1 || cents > 1000000000L) {
            return false;
        }
        purses[motorist] += cents;
        return true;
    }

    int buy(int motorist, int n, int cents, int set, long seed, int days) {
        if (motorist < 0 || motorist > 7 || weeks.isEmpty() || scrolls.size() == 16
            || n < 1 || n > 60 || cents < 1 || cents > 1000 || set < 1 || set > 255
            || days < 1 || days > 60 || purses[motorist] < n * cents) {
            return -1;
        }
        purses[motorist] -= n * cents;
        floatCents += n * cents;
        Scroll s = new Scroll();
        s.owner = motorist;
        s.n = n;
        s.cents = cents;
        s.set = set;
        s.end = day + days;
        s.coins = Checks.coins(seed, n);
        s.letter = Checks.letter(scrolls.size(), n, cents, s.end, set, s.coins[1], weeks.get(weeks.size() - 1));
        scrolls.add(s);
        return scrolls.size() - 1;
    }

    private boolean bad(int scroll, int meter) {
        return scroll < 0 || scroll >= scrolls.size() || meter < 0 || meter > 7;
    }

    int insert(int scroll, int meter) {
        if (bad(scroll, meter)) {
            return -1;
        }
        Meter m = meters[meter];
        Scroll s = scrolls.get(scroll);
        if (m.list.containsKey(scroll)) {
            return 1;
        }
        boolean known = false;
        for (byte[] key : m.keys) {
            byte[] code = Checks.code(key, Arrays.copyOf(s.letter, 172));
            known |= Arrays.equals(code, Arrays.copyOfRange(s.letter, 172, 204));
        }
        if (!known) {
            return 2;
        }
        if ((s.set & 1 << meter) == 0) {
            return 3;
        }
        if (day > s.end) {
            return 4;
        }
        if (m.blocked.contains(scroll)) {
            return 5;
        }
        if (m.list.size() == 6) {
            return 6;
        }
        if (isCut(m)) {
            return -5;
        }
        Entry entry = new Entry();
        entry.coin = Arrays.copyOfRange(s.letter, 12 + 20 * meter, 32 + 20 * meter);
        m.list.put(scroll, entry);
        return 0;
    }

    private static boolean isCut(Meter m) {
        boolean is = m.cut != null && m.cut < 3;
        m.cut = null;
        return is;
    }

    int pay(int scroll, int meter, int k, int plate) {
        if (bad(scroll, meter) || plate < 0 || plate > 15 || k < 1 || k > 50) {
            return -1;
        }
        Scroll s = scrolls.get(scroll);
        Entry entry = meters[meter].list.get(scroll);
        if (entry == null || day > s.end) {
            return -2;
        }
        if (entry.index + k > s.n) {
            return -3;
        }
        return give(scroll, meter, entry.index + k, plate, s.coins[entry.index + k]);
    }

    int offer(int scroll, int meter, int index, int plate) {
        if (bad(scroll, meter) || plate < 0 || plate > 15) {
            return -1;
        }
        return give(scroll, meter, index, plate, buffer.clone());
    }

    private int give(int scroll, int meter, int j, int plate, byte[] coin) {
        Scroll s = scrolls.get(scroll);
        Meter m = meters[meter];
        Entry entry = m.list.get(scroll);
        if (entry == null || day > s.end) {
            return -2;
        }
        if (j <= entry.index || j > entry.index + 50 || j > s.n) {
            return -3;
        }
        byte[] x = coin;
        for (int step = j - entry.index; step > 1; step--) {
            x = Checks.cut(x);
        }
        x = entry.index == 0 ? Checks.head(x, meter) : Checks.cut(x);
        if (!Arrays.equals(x, entry.coin)) {
            return -4;
        }
        if (isCut(m)) {
            return -5;
        }
        int minutes = 2 * s.cents * (j - entry.index);
        entry.index = j;
        entry.coin = coin;
        m.minutes.merge(plate, minutes, Integer::sum);
        return minutes;
    }

    boolean poke(int i, int b) {
        if (i < 0 || i > 19) {
            return false;
        }
        buffer[i] = (byte) b;
        return true;
    }

    int coinByte(int scroll, int index, int i) {
        if (bad(scroll, 0) || index < 1 || index > scrolls.get(scroll).n || i < 0 || i > 19) {
            return -1;
        }
        return Byte.toUnsignedInt(scrolls.get(scroll).coins[index][i]);
    }

    int letterByte(int scroll, int i) {
        return bad(scroll, 0) || i < 0 || i > 203 ? -1 : Byte.toUnsignedInt(scrolls.get(scroll).letter[i]);
    }

    boolean powerCut(int meter, int writes) {
        if (meter < 0 || meter > 7 || writes < 0 || writes > 3) {
            return false;
        }
        meters[meter].cut = writes;
        return true;
    }

    int empty(int meter) {
        if (meter < 0 || meter > 7) {
            return -1;
        }
        Meter m = meters[meter];
        int found = m.list.size();
        m.list.forEach((scroll, entry) -> scrolls.get(scroll).read.put(meter, entry.index));
        m.keys = new ArrayList<>(weeks.subList(Math.max(0, weeks.size() - 2), weeks.size()));
        m.blocked = new HashSet<>(blocked);
        m.list.keySet().removeIf(scroll -> day > scrolls.get(scroll).end);
        return found;
    }

    int settle() {
        int closed = 0;
        for (int number = 0; number < scrolls.size(); number++) {
            Scroll s = scrolls.get(number);
            for (int m = 0; m < 8; m++) {
                int read = s.read.getOrDefault(m, 0);
                for (int coin = s.settled.getOrDefault(m, 0); coin < read; coin++) {
                    if (s.gone < s.n) {
                        s.gone++;
                        floatCents -= s.cents;
                        townCents += s.cents;
                    } else {
                        s.over++;
                        blocked.add(number);
                    }
                }
                s.settled.put(m, read);
            }
            if (day > s.end + 7 && !s.closed) {
                purses[s.owner] += (s.n - s.gone) * s.cents;
                floatCents -= (s.n - s.gone) * s.cents;
                s.gone = s.n;
                s.closed = true;
                closed++;
            }
        }
        return closed;
    }

    long account(int which) {
        if (which >= 10 && which <= 17) {
            return purses[which - 10];
        }
        return which == 0 ? Arrays.stream(purses).sum() : which == 1 ? floatCents : which == 2 ? townCents : -1;
    }

    int spent(int scroll, int meter) {
        return bad(scroll, meter) || !meters[meter].list.containsKey(scroll) ? -1 : meters[meter].list.get(scroll).index;
    }

    int overspent(int scroll) {
        return bad(scroll, 0) ? -1 : scrolls.get(scroll).over;
    }

    int minutes(int meter, int plate) {
        return meter < 0 || meter > 7 || plate < 0 || plate > 15 ? -1 : meters[meter].minutes.getOrDefault(plate, 0);
    }

    int count(int what) {
        switch (what) {
            case 0: return scrolls.size();
            case 1: return Arrays.stream(meters).mapToInt(m -> m.list.size()).sum();
            case 2: return blocked.size();
            case 3: return (int) scrolls.stream().filter(s -> s.closed).count();
            case 4: return day;
            case 5: return weeks.size();
            default: return -1;
        }
    }
}
