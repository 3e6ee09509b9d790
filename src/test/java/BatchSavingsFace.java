import java.lang.reflect.Constructor;
import java.lang.reflect.Field;
import java.lang.reflect.Method;
import java.lang.reflect.Modifier;
import java.util.Arrays;
import java.util.Set;
import java.util.TreeSet;
import java.util.stream.Collectors;

/** The class has the document's public face and no other member that can be seen from outside. */
public final class BatchSavingsFace {
    private static final String[] FACE = {
        "BatchSavings()",
        "int order(int,int,int) IllegalArgumentException UnsupportedOperationException",
        "int joined(int,int,int) NoSuchElementException IllegalArgumentException",
        "int saving(int,int) NoSuchElementException IllegalArgumentException",
        "boolean rule(int,int,boolean) NoSuchElementException IllegalArgumentException",
        "boolean weight(int,int) NoSuchElementException IllegalArgumentException IllegalStateException",
        "void near(int,int,boolean) IllegalArgumentException",
        "int limit(int,int) IllegalArgumentException",
        "int match(int) IllegalArgumentException",
        "boolean exact()",
        "int with(int) NoSuchElementException",
        "int open(int) NoSuchElementException IllegalStateException UnsupportedOperationException",
        "int join(int,int) NoSuchElementException IllegalStateException UnsupportedOperationException",
        "int leave(int) NoSuchElementException IllegalStateException",
        "int batch(int) NoSuchElementException",
        "int told(int,int,int) NoSuchElementException IllegalArgumentException",
        "int best(int) NoSuchElementException IllegalStateException",
        "int share(int,int) IllegalArgumentException ArithmeticException",
        "int mean() ArithmeticException",
        "int count(int)",
    };

    public static void main(String[] args) {
        Class<?> type = BatchSavings.class;
        Set<String> found = new TreeSet<>();
        for (Constructor<?> each : type.getDeclaredConstructors()) {
            if (!Modifier.isPrivate(each.getModifiers())) {
                found.add(each.getName() + parameters(each.getParameterTypes()) + thrown(each.getExceptionTypes()));
            }
        }
        for (Method each : type.getDeclaredMethods()) {
            if (!Modifier.isPrivate(each.getModifiers())) {
                String kind = Modifier.isPublic(each.getModifiers()) && !Modifier.isStatic(each.getModifiers())
                        ? "" : "not public: ";
                found.add(kind + each.getReturnType().getSimpleName() + " " + each.getName()
                        + parameters(each.getParameterTypes()) + thrown(each.getExceptionTypes()));
            }
        }
        for (Field each : type.getDeclaredFields()) {
            if (!Modifier.isPrivate(each.getModifiers())) {
                found.add("field " + each.getName());
            }
        }
        for (Class<?> each : type.getDeclaredClasses()) {
            boolean hidden = !Modifier.isPublic(each.getModifiers()) && !Modifier.isProtected(each.getModifiers());
            if (!hidden || !Modifier.isStatic(each.getModifiers())) {
                found.add("class " + each.getSimpleName());
            }
        }
        Set<String> want = new TreeSet<>(Arrays.asList(FACE));
        boolean isFinal = Modifier.isFinal(type.getModifiers()) && Modifier.isPublic(type.getModifiers());
        boolean isPlain = type.getSuperclass() == Object.class && type.getInterfaces().length == 0;
        Set<String> shared = sharedNames(type);
        if (!found.equals(want) || !isFinal || !isPlain || !shared.isEmpty()) {
            System.out.println("found: " + found);
            System.out.println("due: " + want);
            System.out.println("private methods with a public one's name: " + shared);
            System.exit(1);
        }
        System.out.println("the face is as due");
    }

    private static Set<String> sharedNames(Class<?> type) {
        Set<String> open = new TreeSet<>();
        Set<String> hidden = new TreeSet<>();
        for (Method each : type.getDeclaredMethods()) {
            (Modifier.isPublic(each.getModifiers()) ? open : hidden).add(each.getName());
        }
        for (Class<?> inside : type.getDeclaredClasses()) {
            for (Method each : inside.getDeclaredMethods()) {
                hidden.add(each.getName());
            }
        }
        hidden.retainAll(open);
        return hidden;
    }

    private static String parameters(Class<?>[] types) {
        return Arrays.stream(types).map(Class::getSimpleName).collect(Collectors.joining(",", "(", ")"));
    }

    private static String thrown(Class<?>[] types) {
        return Arrays.stream(types).map(each -> " " + each.getSimpleName()).collect(Collectors.joining());
    }
}
