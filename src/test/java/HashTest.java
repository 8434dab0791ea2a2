import java.lang.reflect.Constructor;
import java.lang.reflect.Method;

/**
 * HASH for rows of every length, above all those whose end falls beside a multiple of 64 bytes. The
 * face only shows hashes of rows of 8, 20, 21, 96 and 236 bytes, so this looks at the class inside.
 */
public final class HashTest {
    private HashTest() {
    }

    public static void main(String[] args) throws ReflectiveOperationException {
        Checks.watch();
        Hasher hasher;
        try {
            hasher = new Hasher();
        } catch (ClassNotFoundException | NoSuchMethodException e) {
            // How a hash is made inside is free; TermsTest has what the face shows of it.
            System.out.println("nothing to look at: " + e);
            return;
        }
        rowsOfEveryLength(hasher);
        aRowBehindALongerOne(hasher);
        Checks.end();
    }

    /** The longest row that the class has room for is one of 247 bytes: with its end, 256. */
    private static void rowsOfEveryLength(Hasher hasher) throws ReflectiveOperationException {
        for (int length = 0; length <= 247; length++) {
            hasher.check(row(length));
        }
    }

    /** The rows are used again: nothing of a longer row may be left behind a shorter one. */
    private static void aRowBehindALongerOne(Hasher hasher) throws ReflectiveOperationException {
        int[] lengths = {0, 1, 54, 55, 56, 57, 63, 64, 65, 118, 119, 120, 127, 128, 129, 183, 184, 191, 192, 193};
        for (int length : lengths) {
            hasher.check(row(247));
            hasher.check(row(length));
        }
    }

    private static byte[] row(int length) {
        byte[] row = new byte[length];
        for (int i = 0; i < length; i++) {
            row[i] = (byte) (255 - 7 * i);
        }
        return row;
    }

    /** Reaches the private class. */
    private static final class Hasher {
        private final Object hash;
        private final Method begin;
        private final Method addBytes;
        private final Method finish;

        Hasher() throws ReflectiveOperationException {
            Class<?> inside = Class.forName("ScrollTown$Hash");
            Constructor<?> constructor = inside.getDeclaredConstructor();
            constructor.setAccessible(true);
            hash = constructor.newInstance();
            begin = open(inside.getDeclaredMethod("begin"));
            addBytes = open(inside.getDeclaredMethod("addBytes", byte[].class, int.class, int.class));
            finish = open(inside.getDeclaredMethod("finish", byte[].class, int.class, int.class));
        }

        private static Method open(Method method) {
            method.setAccessible(true);
            return method;
        }

        void check(byte[] row) throws ReflectiveOperationException {
            byte[] got = new byte[32];
            begin.invoke(hash);
            addBytes.invoke(hash, row, 0, row.length);
            finish.invoke(hash, got, 0, got.length);
            byte[] want = Checks.hash(row);
            for (int i = 0; i < 32; i++) {
                Checks.due("byte " + i + " of the hash of a row of " + row.length, got[i], want[i]);
            }
        }
    }
}
