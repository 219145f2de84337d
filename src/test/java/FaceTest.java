import java.lang.reflect.Constructor;
import java.lang.reflect.Field;
import java.lang.reflect.Method;
import java.lang.reflect.Modifier;
import java.util.Arrays;
import java.util.Set;
import java.util.TreeSet;

/** The face is the document's and no more, and calls take little room. */
public final class FaceTest {
    private static final String[] METHODS = {
        "body 4", "element 1", "lose 2", "target 5", "drop 0", "taken 3", "time 3", "bend 3", "echoTime 3", "slowness 3",
        "echo 3", "gate 5", "focus 2", "delay 1", "heard 2", "sum 1", "board 2", "tell 3", "forget 0", "places 1", "place 2",
        "sheet 3", "tear 1", "record 4", "add 3", "copy 5", "at 2", "peak 1", "total 1"
    };
    private static final String[] CONSTANTS = {
        "UNKNOWN -1", "BAD -2", "STATE -3", "FULL -4", "NONE -99999", "NULL -11", "PLACE -12", "CAST -13", "SIZE -14"
    };
    private static int wrong = 0;

    private static void check(boolean right, String what) {
        if (!right) {
            wrong++;
            System.out.println(what);
        }
    }

    public static void main(String[] args) throws Exception {
        Class<?> face = EchoRow.class;
        check(Modifier.isPublic(face.getModifiers()) && Modifier.isFinal(face.getModifiers()), "the class is not public and final");
        Constructor<?>[] made = face.getDeclaredConstructors();
        check(made.length == 1 && Modifier.isPublic(made[0].getModifiers()) && made[0].getParameterCount() == 0, "the constructor");
        methods(face);
        fields(face);
        for (Class<?> inside : face.getDeclaredClasses()) {
            int m = inside.getModifiers();
            check(Modifier.isStatic(m) && !Modifier.isPublic(m) && !Modifier.isProtected(m), "the class inside: " + inside);
            for (Method method : inside.getDeclaredMethods()) {
                boolean likePublic = Arrays.stream(METHODS).anyMatch(one -> one.startsWith(method.getName() + " "));
                check(!likePublic, "inside a class, but of a public one's name: " + method);
            }
        }
        room();
        System.out.println(wrong == 0 ? "the face is the document's" : wrong + " things are not as due");
        if (wrong != 0) {
            System.exit(1);
        }
    }

    private static void methods(Class<?> face) {
        Set<String> due = new TreeSet<>(Arrays.asList(METHODS));
        Set<String> there = new TreeSet<>();
        Set<String> names = new TreeSet<>();
        for (Method method : face.getDeclaredMethods()) {
            if (Modifier.isPublic(method.getModifiers())) {
                there.add(method.getName() + " " + method.getParameterCount());
                names.add(method.getName());
                check(method.getReturnType() == int.class, "the answer of " + method);
                check(!Modifier.isStatic(method.getModifiers()), "a static method: " + method);
                for (Class<?> type : method.getParameterTypes()) {
                    boolean lost = method.getName().equals("lose") && type == boolean.class;
                    check(type == int.class || lost, "a parameter of " + method);
                }
            }
        }
        check(there.equals(due), "the methods are " + there);
        for (Method method : face.getDeclaredMethods()) {
            int m = method.getModifiers();
            boolean own = Modifier.isPrivate(m) && !names.contains(method.getName());
            check(Modifier.isPublic(m) || own || method.isSynthetic(), "neither public nor a private one of another name: " + method);
        }
    }

    private static void fields(Class<?> face) throws IllegalAccessException {
        Set<String> there = new TreeSet<>();
        for (Field field : face.getDeclaredFields()) {
            int m = field.getModifiers();
            if (Modifier.isPublic(m)) {
                there.add(field.getName() + " " + field.get(null));
            }
            check(Modifier.isPublic(m) || Modifier.isPrivate(m), "neither public nor private: " + field);
            check(!Modifier.isStatic(m) || Modifier.isFinal(m), "static, but not final: " + field);
        }
        check(there.equals(new TreeSet<>(Arrays.asList(CONSTANTS))), "the constants are " + there);
    }

    /** What the dearest calls make, 512 of each kind, must leave most of the room of 7.3 million elements free. */
    private static void room() {
        var thread = (com.sun.management.ThreadMXBean) java.lang.management.ManagementFactory.getThreadMXBean();
        long id = Thread.currentThread().getId();
        EchoRow x = new EchoRow();
        x.body(10, 30, 2, 3);
        for (int i = 0; i < 8; i++) {
            x.element(6 * i);
            x.target(2, 0, 0, 0, 1);
            x.tell(i, i, 300);
        }
        x.sheet(0, 2, 64);
        long before = thread.getThreadAllocatedBytes(id);
        for (int i = 0; i < 512; i++) {
            x.body(10, 30, 2, 3 + i % 2);
            x.places(100);
            x.place(100, 1580);
            x.focus(i % 51, 20);
            x.sum(i);
            x.board(i % 51, 20);
            x.gate(0, 1, 0, 4000, 1);
            x.slowness(0, 7, i);
            x.record(0, 0, 1, i);
            x.add(0, 0, 1);
        }
        long looking = thread.getThreadAllocatedBytes(id) - before;
        check(looking < 100_000, "calls that keep nothing make " + looking + " bytes");
        before = thread.getThreadAllocatedBytes(id);
        for (int i = 0; i < 512; i++) {
            x.sheet(i % 6, 2, 64);
            x.drop();
            x.target(1, 0, 50, 20, 1);
            EchoRow fresh = new EchoRow();
            fresh.element(i % 51);
        }
        long making = thread.getThreadAllocatedBytes(id) - before;
        check(making < 4 * 7_300_000L, "calls that keep something make " + making + " bytes");
    }
}
