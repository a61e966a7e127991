import java.lang.reflect.Array;
import java.lang.reflect.Constructor;
import java.lang.reflect.Field;
import java.lang.reflect.Member;
import java.lang.reflect.Method;
import java.lang.reflect.Modifier;
import java.util.ArrayList;
import java.util.Arrays;
import java.util.Collections;
import java.util.IdentityHashMap;
import java.util.List;
import java.util.Set;
import java.util.TreeSet;

/** The face of the class, and how much room an object takes. */
final class FaceTest {
    private static final List<String> FACE = Arrays.asList(
            "boolean give(int,int)", "char text(int)", "int add(int,int)", "int bad()",
            "int block(int,int) throws IllegalStateException,NoSuchElementException,IllegalArgumentException",
            "int count(int) throws IllegalStateException,IllegalArgumentException", "int done(int,int)",
            "int lift() throws IllegalArgumentException,UnsupportedOperationException",
            "int out(int,int) throws NoSuchElementException", "int outs(int)",
            "int run(int,int) throws IllegalStateException,IllegalArgumentException", "int status(int)",
            "int value(int,int) throws NoSuchElementException", "void clear()");

    /** 7.3 million fields and elements for a run of 512 calls, each of which may make an object. */
    private static final long ROOM = 7300000 / 512;

    public static void main(String[] args) throws IllegalAccessException {
        face();
        room();
        Check.end();
    }

    private static void face() {
        Set<String> seen = new TreeSet<>();
        Set<String> publicNames = new TreeSet<>();
        Set<String> privateNames = new TreeSet<>();
        for (Method method : LoopLifter.class.getDeclaredMethods()) {
            if (Modifier.isPublic(method.getModifiers())) {
                seen.add(written(method));
                publicNames.add(method.getName());
            } else {
                isPrivate(method);
                privateNames.add(method.getName());
            }
        }
        Check.same("the public methods", new ArrayList<>(seen), FACE);
        privateNames.retainAll(publicNames);
        Check.same("private methods with public names", privateNames.size(), 0);
        for (Field field : LoopLifter.class.getDeclaredFields()) {
            isPrivate(field);
        }
        Constructor<?>[] constructors = LoopLifter.class.getDeclaredConstructors();
        Check.same("constructors", constructors.length, 1);
        Check.same("its modifiers", constructors[0].getModifiers(), Modifier.PUBLIC);
        Check.same("its parameters", constructors[0].getParameterCount(), 0);
        Check.same("the class", LoopLifter.class.getModifiers(), Modifier.PUBLIC | Modifier.FINAL);
    }

    private static String written(Method method) {
        List<String> parameters = new ArrayList<>();
        for (Class<?> type : method.getParameterTypes()) {
            parameters.add(type.getSimpleName());
        }
        List<String> thrown = new ArrayList<>();
        for (Class<?> type : method.getExceptionTypes()) {
            thrown.add(type.getSimpleName());
        }
        String head = method.getReturnType().getSimpleName() + " " + method.getName();
        String tail = thrown.isEmpty() ? "" : " throws " + String.join(",", thrown);
        return head + "(" + String.join(",", parameters) + ")" + tail;
    }

    private static void isPrivate(Member member) {
        Check.same(member.getName() + " is private", Modifier.isPrivate(member.getModifiers()), true);
    }

    /** An object must stay small, and calls must not make it grow. */
    private static void room() throws IllegalAccessException {
        LoopLifter x = new LoopLifter();
        Check.same("an object is small: " + size(x), size(x) < ROOM, true);
        for (int n = 0; n < 32; n++) {
            x.add(n < 31 ? 9 : 11, n < 31 ? n + 1 : 0);
        }
        for (int n = 0; n < 100; n++) {
            x.lift();
            x.run(0, 300);
            x.run(1, 300);
        }
        Check.same("an object stays small: " + size(x), size(x) < ROOM, true);
    }

    private static long size(Object root) throws IllegalAccessException {
        Set<Object> seen = Collections.newSetFromMap(new IdentityHashMap<>());
        List<Object> open = new ArrayList<>();
        open.add(root);
        long size = 0;
        while (!open.isEmpty()) {
            Object one = open.remove(open.size() - 1);
            if (one == null || !seen.add(one)) {
                continue;
            }
            if (one.getClass().isArray()) {
                size += Array.getLength(one);
                continue;
            }
            // The library's own objects can't be looked into.
            boolean own = !one.getClass().getName().startsWith("java.");
            for (Class<?> type = one.getClass(); own && type != Object.class; type = type.getSuperclass()) {
                for (Field field : type.getDeclaredFields()) {
                    if (!Modifier.isStatic(field.getModifiers())) {
                        size++;
                        field.setAccessible(true);
                        if (!field.getType().isPrimitive()) {
                            open.add(field.get(one));
                        }
                    }
                }
            }
        }
        return size;
    }
}
