import java.lang.reflect.Constructor;
import java.lang.reflect.Field;
import java.lang.reflect.InvocationTargetException;
import java.lang.reflect.Method;
import java.lang.reflect.Modifier;
import java.util.Arrays;
import java.util.Random;
import java.util.TreeSet;

/** The class has the document's face and no other member to be seen, and no call throws. */
public final class FaceTest {
    private static final String[] FACE = {
        "int pack(boolean)", "int title(int, int)", "int cover(int, int, int)",
        "int embargo(int, int, int)", "int rule(int, int, int, int)", "int fails(int, boolean)",
        "int reader(int, int)", "int room(int, int)", "int in(int, int)", "int out(int, int)",
        "int access(int, int, int, int)", "int failed()", "int provider(int, int, int)",
        "int end(int, int)", "int about(int, int)", "int gap(int, int, int)", "int usage(int, int)",
        "int told(int, int)", "int who(int, int)"};
    private static final String[] CONSTANTS = {"NONE -1", "RANGE -2", "STATE -3", "FULL -4"};
    private static final int[] EDGES = {Integer.MIN_VALUE, Integer.MIN_VALUE + 1, -2, -1, 0, 1, 2, 3,
        7, 9, 10, 19, 20, 99, 100, 101, 120, 127, 199, 200, 511, 512, 6666, 6667, 199999, 200000,
        200001, 1000000, Integer.MAX_VALUE - 1, Integer.MAX_VALUE};

    private static int wrong = 0;

    private static void same(String what, TreeSet<String> got, String[] want) {
        TreeSet<String> due = new TreeSet<>(Arrays.asList(want));
        if (!got.equals(due)) {
            wrong++;
            System.out.println(what + ": there is " + got + ", due is " + due);
        }
    }

    private static void looksAtMembers() throws IllegalAccessException {
        Class<?> face = LicenceRows2.class;
        TreeSet<String> methods = new TreeSet<>();
        for (Method m : face.getDeclaredMethods()) {
            if (!Modifier.isPrivate(m.getModifiers())) {
                String types = String.join(", ",
                    Arrays.stream(m.getParameterTypes()).map(Class::getName).toArray(String[]::new));
                methods.add(m.getReturnType() + " " + m.getName() + "(" + types + ")");
            }
        }
        same("methods", methods, FACE);
        TreeSet<String> constants = new TreeSet<>();
        for (Field f : face.getDeclaredFields()) {
            if (!Modifier.isPrivate(f.getModifiers())) {
                constants.add(f.getName() + " " + f.get(null));
            }
        }
        same("constants", constants, CONSTANTS);
        Constructor<?>[] made = face.getDeclaredConstructors();
        if (made.length != 1 || made[0].getParameterCount() != 0 || !Modifier.isFinal(face.getModifiers())) {
            wrong++;
            System.out.println("the class is final and has one constructor without parameters");
        }
    }

    private static void looksAtPrivateNames() {
        TreeSet<String> publicNames = new TreeSet<>();
        for (Method m : LicenceRows2.class.getDeclaredMethods()) {
            if (Modifier.isPublic(m.getModifiers())) {
                publicNames.add(m.getName());
            }
        }
        for (Method m : LicenceRows2.class.getDeclaredMethods()) {
            if (!Modifier.isPublic(m.getModifiers()) && publicNames.contains(m.getName())) {
                wrong++;
                System.out.println("a private method bears a public name: " + m.getName());
            }
        }
        for (Class<?> inside : LicenceRows2.class.getDeclaredClasses()) {
            int kind = inside.getModifiers();
            if (!Modifier.isStatic(kind) || Modifier.isPublic(kind) || Modifier.isProtected(kind)) {
                wrong++;
                System.out.println("a class inside is not static, or is to be seen: " + inside.getName());
            }
        }
    }

    private static Object[] draw(Method m, Random random) {
        Class<?>[] types = m.getParameterTypes();
        Object[] values = new Object[types.length];
        for (int i = 0; i < types.length; i++) {
            boolean edge = random.nextInt(3) == 0;
            if (types[i] == boolean.class) {
                values[i] = random.nextBoolean();
            } else {
                values[i] = edge ? EDGES[random.nextInt(EDGES.length)] : random.nextInt(12);
            }
        }
        return values;
    }

    /** Far beyond 512 calls, too: their answers are free, but not to throw. */
    private static void callsAtRandom() throws IllegalAccessException {
        Method[] methods = Arrays.stream(LicenceRows2.class.getDeclaredMethods())
            .filter(m -> Modifier.isPublic(m.getModifiers()))
            .sorted((a, b) -> a.getName().compareTo(b.getName())).toArray(Method[]::new);
        for (int run = 0; run < 60; run++) {
            Random random = new Random(run);
            LicenceRows2 x = new LicenceRows2();
            for (int i = 0; i < 5000; i++) {
                Method m = methods[random.nextInt(methods.length)];
                Object[] values = draw(m, random);
                try {
                    m.invoke(x, values);
                } catch (InvocationTargetException e) {
                    wrong++;
                    System.out.println(m.getName() + Arrays.toString(values) + " threw " + e.getCause());
                }
            }
        }
    }

    private static void usagesBeyondCalls() {
        LicenceRows2 x = new LicenceRows2();
        x.pack(true);
        x.title(0, 0);
        x.cover(0, 0, 0);
        x.rule(0, 3, 1, 0);
        x.in(0, 0);
        for (int i = 0; i < 2000; i++) {
            x.access(0, 0, 0, 0);
        }
    }

    public static void main(String[] args) throws IllegalAccessException {
        looksAtMembers();
        looksAtPrivateNames();
        callsAtRandom();
        usagesBeyondCalls();
        System.out.println("the face: " + wrong + " not as due");
        if (wrong != 0) {
            System.exit(1);
        }
    }
}
