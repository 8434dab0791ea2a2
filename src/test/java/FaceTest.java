import java.lang.management.ManagementFactory;
import java.lang.reflect.Constructor;
import java.lang.reflect.Field;
import java.lang.reflect.Method;
import java.lang.reflect.Modifier;
import java.util.Set;
import java.util.TreeSet;

/** The public face is the document's and no other; and the calls keep within the room that they have. */
public final class FaceTest {
    private static final Set<String> METHODS = Set.of(
        "int newWeek(long,long)", "boolean today(int)", "boolean money(int,long)",
        "int buy(int,int,int,int,long,int)", "int insert(int,int)", "int pay(int,int,int,int)",
        "int offer(int,int,int,int)", "boolean poke(int,int)", "int coinByte(int,int,int)",
        "int letterByte(int,int)", "boolean powerCut(int,int)", "int empty(int)", "int settle()",
        "long account(int)", "int spent(int,int)", "int overspent(int)", "int minutes(int,int)",
        "int count(int)");
    private static final long ROOM = 7300000;
    private static final Set<String> CONSTANTS = Set.of("NONE", "NOT_HERE", "NO_INDEX", "NO_COIN", "CUT_OFF");

    private FaceTest() {
    }

    public static void main(String[] args) {
        Checks.runAll(FaceTest.class);
    }

    static void faceIsTheDocuments() {
        Checks.due("the class is public and final",
            Modifier.isPublic(ScrollTown.class.getModifiers()) && Modifier.isFinal(ScrollTown.class.getModifiers()), true);
        Set<String> seen = new TreeSet<>();
        Set<String> publicNames = new TreeSet<>();
        for (Method m : ScrollTown.class.getDeclaredMethods()) {
            if (!Modifier.isPrivate(m.getModifiers())) {
                Checks.due(m + " is public, not static", Modifier.isPublic(m.getModifiers()) && !Modifier.isStatic(m.getModifiers()), true);
                seen.add(m.getReturnType() + " " + m.getName() + parameters(m.getParameterTypes()));
                publicNames.add(m.getName());
            }
        }
        Checks.due("the methods " + seen, seen.equals(METHODS), true);
        for (Method m : ScrollTown.class.getDeclaredMethods()) {
            if (Modifier.isPrivate(m.getModifiers())) {
                Checks.due(m + " has a name of the face", publicNames.contains(m.getName()), false);
            }
        }
        for (Constructor<?> c : ScrollTown.class.getDeclaredConstructors()) {
            Checks.due("the constructor", Modifier.isPublic(c.getModifiers()) && c.getParameterCount() == 0, true);
        }
    }

    private static String parameters(Class<?>[] types) {
        StringBuilder text = new StringBuilder("(");
        for (Class<?> type : types) {
            text.append(text.length() > 1 ? "," : "").append(type);
        }
        return text.append(")").toString();
    }

    static void constantsAreTheDocuments() {
        Set<String> seen = new TreeSet<>();
        for (Field f : ScrollTown.class.getDeclaredFields()) {
            if (!Modifier.isPrivate(f.getModifiers())) {
                Checks.due(f + " is a public constant", f.getModifiers(), Modifier.PUBLIC | Modifier.STATIC | Modifier.FINAL);
                seen.add(f.getName());
            }
            if (Modifier.isStatic(f.getModifiers())) {
                Checks.due(f + " is final", Modifier.isFinal(f.getModifiers()), true);
            }
        }
        Checks.due("the constants " + seen, seen.equals(CONSTANTS), true);
        Checks.due("NONE", ScrollTown.NONE, -1);
        Checks.due("NOT_HERE", ScrollTown.NOT_HERE, -2);
        Checks.due("NO_INDEX", ScrollTown.NO_INDEX, -3);
        Checks.due("NO_COIN", ScrollTown.NO_COIN, -4);
        Checks.due("CUT_OFF", ScrollTown.CUT_OFF, -5);
    }

    static void classesInsideAreHidden() {
        Checks.due("more than twelve classes", ScrollTown.class.getDeclaredClasses().length > 12, false);
        for (Class<?> inside : ScrollTown.class.getDeclaredClasses()) {
            int modifiers = inside.getModifiers();
            Checks.due(inside + " is static and not public",
                Modifier.isStatic(modifiers) && !Modifier.isPublic(modifiers) && !Modifier.isProtected(modifiers), true);
        }
    }

    /**
     * The room is one for all calls of a run: 600,000 objects and 7,300,000 fields and elements. An element
     * has a byte at least and an object 16, so who makes fewer bytes than that keeps within both.
     */
    static void callsMakeFewObjects() {
        com.sun.management.ThreadMXBean threads = (com.sun.management.ThreadMXBean) ManagementFactory.getThreadMXBean();
        dearRun();
        long before = threads.getCurrentThreadAllocatedBytes();
        dearRun();
        long made = threads.getCurrentThreadAllocatedBytes() - before;
        System.out.println("a dear run makes " + made + " bytes");
        Checks.due("a dear run makes more than its room: " + made, made > ROOM, false);
    }

    private static void dearRun() {
        ScrollTown town = new ScrollTown();
        town.newWeek(1, 2);
        town.newWeek(1, 3);
        town.money(0, 1000000);
        for (int s = 0; s < 16; s++) {
            town.buy(0, 60, 1, 255, s, 60);
        }
        for (int call = 19; call < 511; call += 6) {
            town.empty(call % 8);
            town.insert(call % 16, call % 8);
            town.pay(call % 16, call % 8, 50, 0);
            town.offer(call % 16, call % 8, 50, 0);
            town.settle();
            town.today(call % 59);
        }
    }
}
