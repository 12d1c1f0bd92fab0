import java.lang.management.ManagementFactory;
import java.lang.reflect.Constructor;
import java.lang.reflect.Field;
import java.lang.reflect.Method;
import java.lang.reflect.Modifier;
import java.util.Arrays;
import java.util.Set;
import java.util.TreeSet;

/** The public face is the document's and nothing more, and calls make no objects. */
public final class FaceTest {
    private static final Check CHECK = new Check();
    private static final String[] FACE = {
        "int string(int) IllegalArgumentException IllegalStateException",
        "int turbine(int,int,int) IndexOutOfBoundsException IllegalArgumentException"
            + " IllegalStateException",
        "int vessel(int) IllegalArgumentException IllegalStateException",
        "int nominate(int,int) IllegalArgumentException",
        "int blow(int,int,int,int,int,int) IllegalArgumentException",
        "int turn(int,int) IndexOutOfBoundsException IllegalArgumentException",
        "int call(int,boolean) IndexOutOfBoundsException IllegalStateException",
        "int floor(int) IllegalArgumentException",
        "int sail(int,int) IndexOutOfBoundsException IllegalStateException",
        "int lock(int,boolean) IndexOutOfBoundsException IllegalStateException",
        "int climb(int,int) IndexOutOfBoundsException",
        "int down(int) IndexOutOfBoundsException IllegalStateException",
        "int ofTurbine(int,int) IndexOutOfBoundsException IllegalArgumentException",
        "int wear(int,int) IndexOutOfBoundsException",
        "int lost(int,int) IndexOutOfBoundsException",
        "int wake(int,int) IndexOutOfBoundsException",
        "int extreme(int,int) IndexOutOfBoundsException",
        "int ofString(int,int) IndexOutOfBoundsException IllegalArgumentException",
        "int ofVessel(int,int) IndexOutOfBoundsException IllegalArgumentException",
        "int many(int) IllegalArgumentException",
        "double meanDelivered()",
        "int wouldDeliver(int) IllegalArgumentException",
        "int bestTurn(int) IndexOutOfBoundsException",
        "int bestPlace()",
        "long digest()",
    };

    private FaceTest() {
    }

    public static void main(String[] args) {
        face();
        room();
        CHECK.end("FaceTest");
    }

    private static void face() {
        CHECK.part("the public face");
        CHECK.that("public and final", Modifier.isPublic(WakeBanks.class.getModifiers())
                && Modifier.isFinal(WakeBanks.class.getModifiers()));
        Set<String> got = new TreeSet<>();
        Set<String> names = new TreeSet<>();
        for (Method method : WakeBanks.class.getDeclaredMethods()) {
            if (Modifier.isPublic(method.getModifiers())) {
                got.add(told(method));
                names.add(method.getName());
            }
        }
        Set<String> due = new TreeSet<>(Arrays.asList(FACE));
        CHECK.that("methods are " + got + ", due are " + due, got.equals(due));
        Constructor<?>[] made = WakeBanks.class.getDeclaredConstructors();
        CHECK.that("one public constructor", made.length == 1
                && Modifier.isPublic(made[0].getModifiers())
                && made[0].getParameterCount() == 0);
        for (Field field : WakeBanks.class.getDeclaredFields()) {
            CHECK.that(field.getName() + " is private and final",
                    Modifier.isPrivate(field.getModifiers())
                            && Modifier.isFinal(field.getModifiers()));
        }
        CHECK.that("some twelve classes", WakeBanks.class.getDeclaredClasses().length <= 12);
        innerNames(WakeBanks.class, names);
        for (Class<?> inner : WakeBanks.class.getDeclaredClasses()) {
            innerNames(inner, names);
        }
    }

    private static void innerNames(Class<?> owner, Set<String> names) {
        int fields = 0;
        for (Field field : owner.getDeclaredFields()) {
            if (!Modifier.isStatic(field.getModifiers())) {
                fields++;
            }
        }
        CHECK.that(owner.getName() + " has at most 20 fields", fields <= 20);
        for (Method method : owner.getDeclaredMethods()) {
            CHECK.that(method.getName() + " takes at most 7 parameters",
                    method.getParameterCount() <= 7);
            if (Modifier.isPublic(method.getModifiers()) && owner == WakeBanks.class) {
                continue;
            }
            CHECK.that("only the face has the name " + method.getName(),
                    !names.contains(method.getName()));
            if (owner == WakeBanks.class) {
                CHECK.that(method.getName() + " is private",
                        Modifier.isPrivate(method.getModifiers()));
            }
        }
    }

    private static String told(Method method) {
        StringBuilder text = new StringBuilder();
        text.append(method.getReturnType()).append(' ').append(method.getName()).append('(');
        for (Class<?> type : method.getParameterTypes()) {
            text.append(text.charAt(text.length() - 1) == '(' ? "" : ",").append(type);
        }
        text.append(')');
        for (Class<?> thrown : method.getExceptionTypes()) {
            text.append(' ').append(thrown.getSimpleName());
        }
        return text.toString();
    }

    /** All calls of one run live in one room: what is made in a call is never given back. */
    private static void room() {
        CHECK.part("the room");
        WakeBanks sea = new WakeBanks();
        sea.string(3000);
        for (int i = 0; i < 8; i++) {
            sea.turbine(i, i, 0);
        }
        sea.vessel(20);
        dearCalls(sea);
        var thread = (com.sun.management.ThreadMXBean) ManagementFactory.getThreadMXBean();
        long before = thread.getCurrentThreadAllocatedBytes();
        for (int i = 0; i < 300; i++) {
            dearCalls(sea);
        }
        long made = thread.getCurrentThreadAllocatedBytes() - before;
        CHECK.that("300 times the dear calls made " + made + " bytes", made < 50_000);
    }

    private static void dearCalls(WakeBanks sea) {
        sea.blow(24, 1, 12, 3, 50, 9000);
        sea.digest();
        sea.wouldDeliver(24);
        sea.bestTurn(7);
        sea.bestPlace();
    }
}
