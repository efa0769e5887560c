import java.lang.reflect.Field;
import java.lang.reflect.InvocationTargetException;
import java.lang.reflect.Method;
import java.lang.reflect.Modifier;
import java.util.Random;
import java.util.Set;
import java.util.TreeSet;

/** The public face is the document's, and no call throws, whatever its arguments are. */
public final class FaceTest {
    private static final Set<String> FACE = Set.of(
        "boolean put(int,long)", "int blob()", "boolean entry(int,int)", "int tree()", "void clear()",
        "int commit(int,int,int,int)", "boolean move(int,int,int)", "int reference(int)",
        "int history(int,int)", "int clean()", "int object(int,int)", "int content(int,int)",
        "int find(int,int,int,int,int)", "boolean reaches(int,int)", "int pack(int)", "int unpack()",
        "boolean feed(int,long)", "boolean alter(int,int)", "int wire(int)");
    private static final int[] WILD = {Integer.MIN_VALUE, -1000, -129, -5, -4, -3, -2, -1, 0, 1, 2, 3, 4, 5, 7, 8,
        9, 15, 16, 23, 24, 25, 26, 31, 32, 48, 127, 128, 255, 256, 599, 600, 999, 1000, Integer.MAX_VALUE};

    public static void main(String[] args) throws IllegalAccessException {
        constants();
        members();
        wildCalls();
        Check.end();
    }

    private static void constants() {
        Check.same("NONE", ObjectDepot.NONE, -1);
        Check.same("FULL", ObjectDepot.FULL, -2);
        Check.same("BROKEN", ObjectDepot.BROKEN, -3);
        Check.same("LACKING", ObjectDepot.LACKING, -4);
    }

    private static String told(Method method) {
        StringBuilder text = new StringBuilder(method.getReturnType() + " " + method.getName() + "(");
        for (Class<?> type : method.getParameterTypes()) {
            text.append(text.charAt(text.length() - 1) == '(' ? "" : ",").append(type);
        }
        return text + ")";
    }

    private static void members() {
        int modifiers = ObjectDepot.class.getModifiers();
        Check.yes("public and final", Modifier.isPublic(modifiers) && Modifier.isFinal(modifiers));
        Check.same("constructors", ObjectDepot.class.getDeclaredConstructors().length, 1);
        Check.same("public constructors", ObjectDepot.class.getConstructors().length, 1);
        Set<String> names = new TreeSet<>();
        Set<String> seen = new TreeSet<>();
        for (Method method : ObjectDepot.class.getDeclaredMethods()) {
            if (!Modifier.isPrivate(method.getModifiers())) {
                Check.yes(told(method) + " is of the face", FACE.contains(told(method)));
                seen.add(told(method));
                names.add(method.getName());
            }
        }
        Check.same("methods of the face", seen.size(), FACE.size());
        for (Method method : ObjectDepot.class.getDeclaredMethods()) {
            if (Modifier.isPrivate(method.getModifiers())) {
                Check.no(told(method) + " has a name of the face", names.contains(method.getName()));
            }
        }
        fields();
    }

    private static void fields() {
        Set<String> constants = Set.of("NONE", "FULL", "BROKEN", "LACKING");
        int open = 0;
        for (Field field : ObjectDepot.class.getDeclaredFields()) {
            int modifiers = field.getModifiers();
            if (!Modifier.isPrivate(modifiers)) {
                open++;
                Check.yes(field + " is of the face", Modifier.isPublic(modifiers) && Modifier.isStatic(modifiers)
                    && constants.contains(field.getName()) && field.getType() == int.class);
            }
            Check.yes(field + " is final if static", !Modifier.isStatic(modifiers) || Modifier.isFinal(modifiers));
        }
        Check.same("constants", open, 4);
        for (Class<?> inner : ObjectDepot.class.getDeclaredClasses()) {
            Check.yes(inner + " is static and not public", Modifier.isStatic(inner.getModifiers())
                && !Modifier.isPublic(inner.getModifiers()) && !Modifier.isProtected(inner.getModifiers()));
        }
    }

    /** Runs that go on far behind the 512th call, as a caller may ask on. */
    private static void wildCalls() throws IllegalAccessException {
        Method[] methods = ObjectDepot.class.getDeclaredMethods();
        for (int seed = 0; seed < 60; seed++) {
            Random random = new Random(seed);
            ObjectDepot depot = new ObjectDepot();
            for (int i = 0; i < 3000; i++) {
                Method method = methods[random.nextInt(methods.length)];
                if (Modifier.isPublic(method.getModifiers())) {
                    callWildly(depot, method, random);
                }
            }
        }
    }

    private static void callWildly(ObjectDepot depot, Method method, Random random) throws IllegalAccessException {
        Class<?>[] types = method.getParameterTypes();
        Object[] arguments = new Object[types.length];
        for (int i = 0; i < types.length; i++) {
            int number = random.nextInt(3) == 0 ? WILD[random.nextInt(WILD.length)] : random.nextInt(12) - 1;
            arguments[i] = types[i] == long.class ? (Object) random.nextLong() : (Object) number;
        }
        boolean threw = false;
        try {
            method.invoke(depot, arguments);
        } catch (InvocationTargetException e) {
            threw = true;
            System.out.println(e.getCause());
        }
        Check.no(told(method) + " throws", threw);
    }
}
