import java.lang.reflect.Constructor;
import java.lang.reflect.Field;
import java.lang.reflect.Method;
import java.lang.reflect.Modifier;
import java.util.Arrays;
import java.util.Set;
import java.util.TreeSet;

/** The class shows the document's face and nothing else, and no call throws what it must not. */
public final class FaceTest {
    private static final String[] FACE = {
        "boolean day(int)",
        "int door(int, int, int, int)",
        "boolean row(int, int, int, int)",
        "boolean lack(int, int, int)",
        "boolean start(int, int, int)",
        "int check(int, int, int, int)",
        "int uncheck()",
        "int fits()",
        "int inside(int, int, boolean) IndexOutOfBoundsException NoSuchElementException",
        "int could(int)",
        "int surely(int)",
        "int through(int, int, boolean) IndexOutOfBoundsException NoSuchElementException",
        "int worse()",
        "int quarrel()",
        "int look(int, int) IndexOutOfBoundsException NoSuchElementException",
        "int count(int)",
    };
    private static final int[] NUMBERS = {Integer.MIN_VALUE, Integer.MIN_VALUE + 1, -61, -1, 0, 1, 2, 3, 5, 6,
        19, 20, 21, 59, 60, 61, 9998, 9999, 10000, 99999, 100000, Integer.MAX_VALUE - 1, Integer.MAX_VALUE};

    private static int wrong = 0;

    private static void fault(String text) {
        wrong++;
        System.out.println(text);
    }

    private static String told(Method method) {
        StringBuilder s = new StringBuilder();
        s.append(method.getReturnType().getSimpleName()).append(' ').append(method.getName());
        String[] types = Arrays.stream(method.getParameterTypes()).map(Class::getSimpleName).toArray(String[]::new);
        s.append('(').append(String.join(", ", types)).append(')');
        Arrays.stream(method.getExceptionTypes()).map(Class::getSimpleName).sorted().forEach(e -> s.append(' ').append(e));
        return s.toString();
    }

    private static void lookAtFace() {
        Class<DoorBench> c = DoorBench.class;
        if (!Modifier.isFinal(c.getModifiers()) || !Modifier.isPublic(c.getModifiers())) {
            fault("the class is not public and final");
        }
        Set<String> due = new TreeSet<>(Arrays.asList(FACE));
        Set<String> shown = new TreeSet<>();
        Set<String> hidden = new TreeSet<>();
        Set<String> names = new TreeSet<>();
        for (Method method : c.getDeclaredMethods()) {
            if (Modifier.isPrivate(method.getModifiers())) {
                hidden.add(method.getName());
            } else {
                shown.add(told(method));
                names.add(method.getName());
            }
        }
        if (!shown.equals(due)) {
            fault("methods shown: " + shown + ", due: " + due);
        }
        hidden.retainAll(names);
        if (!hidden.isEmpty()) {
            fault("private methods with a public one's name: " + hidden);
        }
        for (Field field : c.getDeclaredFields()) {
            boolean none = field.getName().equals("NONE") && Modifier.isPublic(field.getModifiers());
            if (!none && !Modifier.isPrivate(field.getModifiers())) {
                fault("a field that is not private: " + field.getName());
            }
            if (Modifier.isStatic(field.getModifiers()) && !Modifier.isFinal(field.getModifiers())) {
                fault("a static field that is not final: " + field.getName());
            }
        }
        Constructor<?>[] constructors = c.getDeclaredConstructors();
        if (constructors.length != 1 || constructors[0].getParameterCount() != 0
                || !Modifier.isPublic(constructors[0].getModifiers())) {
            fault("the constructor is not as due");
        }
    }

    private static int oneCall(DoorBench x, int call, int[] n) {
        switch (call) {
            case 0: return x.day(n[0]) ? 1 : 0;
            case 1: return x.door(n[0], n[1], n[2], n[3]);
            case 2: return x.row(n[0], n[1], n[2], n[3]) ? 1 : 0;
            case 3: return x.lack(n[0], n[1], n[2]) ? 1 : 0;
            case 4: return x.start(n[0], n[1], n[2]) ? 1 : 0;
            case 5: return x.check(n[0], n[1], n[2], n[3]);
            case 6: return x.uncheck();
            case 7: return x.fits();
            case 8: return x.inside(n[0], n[1], n[2] > 2);
            case 9: return x.could(n[0]);
            case 10: return x.surely(n[0]);
            case 11: return x.through(n[0], n[1], n[2] > 2);
            case 12: return x.worse();
            case 13: return x.quarrel();
            case 14: return x.look(n[0], n[1]);
            default: return x.count(n[0]);
        }
    }

    /** Only inside, through and look may throw, and only by a throw of their own. */
    private static boolean mayThrow(int call, RuntimeException e) {
        boolean asking = call == 8 || call == 11 || call == 14;
        boolean named = e.getClass() == IndexOutOfBoundsException.class
                || e.getClass() == java.util.NoSuchElementException.class;
        return asking && named;
    }

    private static void callWithAnything(long seed) {
        DoorBench x = new DoorBench();
        java.util.Random lot = new java.util.Random(seed);
        int[] n = new int[4];
        for (int i = 0; i < 512; i++) {
            // 'day' comes seldom, so that DOORS and CHECKS gather
            int call = lot.nextInt(80) == 0 ? 0 : 1 + lot.nextInt(15);
            for (int k = 0; k < 4; k++) {
                boolean near = lot.nextInt(10) > 0;
                n[k] = near ? lot.nextInt(7) : NUMBERS[lot.nextInt(NUMBERS.length)];
            }
            if (call == 0) {
                n[0] = NUMBERS[lot.nextInt(NUMBERS.length)];
            }
            try {
                oneCall(x, call, n);
            } catch (RuntimeException e) {
                if (!mayThrow(call, e)) {
                    fault("seed " + seed + ", call " + i + ": " + FACE[call] + " of " + Arrays.toString(n) + " threw " + e);
                }
            }
        }
    }

    public static void main(String[] args) {
        lookAtFace();
        for (int seed = 0; seed < 500; seed++) {
            callWithAnything(seed);
        }
        System.out.println("the face and 500 runs of 512 calls looked at, " + wrong + " faults");
        if (wrong != 0) {
            System.exit(1);
        }
    }
}
