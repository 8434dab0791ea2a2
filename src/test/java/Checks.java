import java.io.ByteArrayOutputStream;
import java.lang.reflect.InvocationTargetException;
import java.lang.reflect.Method;
import java.lang.reflect.Modifier;
import java.nio.ByteBuffer;
import java.security.GeneralSecurityException;
import java.security.MessageDigest;
import java.util.Arrays;
import java.util.Comparator;
import javax.crypto.Mac;
import javax.crypto.spec.SecretKeySpec;

/** What the tests share: running them, counting wrong answers, and the Java library's hashes to compare with. */
final class Checks {
    private static final long MOST_SECONDS = 300;

    private static String test = "";
    private static int done;
    private static int wrong;

    private Checks() {
    }

    /** Runs every test of a class, that is each method without parameters that is static and not private. */
    static void runAll(Class<?> tests) {
        watch();
        Method[] methods = tests.getDeclaredMethods();
        Arrays.sort(methods, Comparator.comparing(Method::getName));
        int ran = 0;
        for (Method method : methods) {
            if (isTest(method)) {
                test = method.getName() + ": ";
                run(method);
                ran++;
            }
        }
        test = "";
        System.out.print(ran + " tests, ");
        end();
    }

    private static boolean isTest(Method method) {
        int modifiers = method.getModifiers();
        return method.getParameterCount() == 0 && Modifier.isStatic(modifiers) && !Modifier.isPrivate(modifiers);
    }

    private static void run(Method method) {
        int before = done;
        try {
            method.invoke(null);
        } catch (IllegalAccessException | InvocationTargetException e) {
            fail("threw " + e.getCause());
        }
        if (done == before) {
            fail("asked for nothing");
        }
    }

    /** A call that never ends must fail the tests, not hold them up. */
    static void watch() {
        Thread watcher = new Thread(() -> {
            try {
                Thread.sleep(MOST_SECONDS * 1000);
            } catch (InterruptedException e) {
                return;
            }
            System.out.println(test + "did not end");
            Runtime.getRuntime().halt(1);
        });
        watcher.setDaemon(true);
        watcher.start();
    }

    static void due(String call, long got, long want) {
        done++;
        if (got != want) {
            fail(call + " answered " + got + ", due is " + want);
        }
    }

    static void due(String call, boolean got, boolean want) {
        due(call, got ? 1 : 0, want ? 1 : 0);
    }

    static void fail(String what) {
        wrong++;
        System.out.println(test + what);
    }

    static boolean anyWrong() {
        return wrong != 0;
    }

    static void end() {
        System.out.println(done + " answers, " + wrong + " not as due");
        if (wrong != 0) {
            System.exit(1);
        }
    }

    static byte[] join(byte[]... rows) {
        ByteArrayOutputStream out = new ByteArrayOutputStream();
        for (byte[] row : rows) {
            out.writeBytes(row);
        }
        return out.toByteArray();
    }

    static byte[] hash(byte[] row) {
        try {
            return MessageDigest.getInstance("SHA-256").digest(row);
        } catch (GeneralSecurityException e) {
            throw new IllegalStateException(e);
        }
    }

    static byte[] cut(byte[]... rows) {
        return Arrays.copyOf(hash(join(rows)), 20);
    }

    static byte[] code(byte[] key, byte[] row) {
        try {
            Mac mac = Mac.getInstance("HmacSHA256");
            mac.init(new SecretKeySpec(key, "HmacSHA256"));
            return mac.doFinal(row);
        } catch (GeneralSecurityException e) {
            throw new IllegalStateException(e);
        }
    }

    static byte[] key(long first, long second) {
        return ByteBuffer.allocate(16).putLong(first).putLong(second).array();
    }

    static byte[] seedBytes(long seed) {
        return ByteBuffer.allocate(8).putLong(seed).array();
    }

    /** Coins 1 .. n of a scroll, with nothing at 0. */
    static byte[][] coins(long seed, int n) {
        byte[][] coins = new byte[n + 1][];
        coins[n] = cut(seedBytes(seed));
        for (int i = n - 1; i >= 1; i--) {
            coins[i] = cut(coins[i + 1]);
        }
        return coins;
    }

    static byte[] head(byte[] coin1, int meter) {
        return cut(coin1, new byte[] {(byte) meter});
    }

    static byte[] letter(int number, int n, int cents, int end, int set, byte[] coin1, byte[] key) {
        ByteBuffer text = ByteBuffer.allocate(172);
        text.putShort((short) number).putShort((short) n).putShort((short) cents);
        text.putInt(end).putShort((short) set);
        for (int m = 0; m < 8; m++) {
            text.put((set >> m & 1) == 1 ? head(coin1, m) : new byte[20]);
        }
        return join(text.array(), code(key, text.array()));
    }
}
