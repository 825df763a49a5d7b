import java.lang.reflect.Constructor;
import java.lang.reflect.Field;
import java.lang.reflect.Method;
import java.lang.reflect.Modifier;
import java.util.Arrays;
import java.util.Set;
import java.util.TreeSet;

/** The class has the document's face, and no other member that is not private. */
public final class NailRodsFace {
    private static final String[] FACE = {
        "int nailer 3 IndexOutOfBoundsException IllegalArgumentException IllegalStateException",
        "int lend 2 IndexOutOfBoundsException IllegalArgumentException IllegalStateException",
        "int coal 2 IndexOutOfBoundsException IllegalArgumentException IllegalStateException",
        "int make 2 IndexOutOfBoundsException",
        "int change 2 IndexOutOfBoundsException IllegalStateException",
        "int told 2 IndexOutOfBoundsException",
        "int nails 3 IndexOutOfBoundsException",
        "int keep 2 IndexOutOfBoundsException IllegalArgumentException",
        "int fogger 2 IndexOutOfBoundsException",
        "int count 1 IndexOutOfBoundsException",
        "int pass 1 IllegalArgumentException",
        "int rate 1 IndexOutOfBoundsException",
        "int when 2 IndexOutOfBoundsException IllegalArgumentException",
        "int foresee 2 IllegalArgumentException IndexOutOfBoundsException",
        "int advise 2 IndexOutOfBoundsException IllegalArgumentException",
        "int richest 0",
        "double mean 0",
        "long digest 0",
    };

    public static void main(String[] args) {
        Set<String> wrong = new TreeSet<>();
        Set<String> missing = new TreeSet<>(Arrays.asList(FACE));
        Set<String> names = new TreeSet<>();
        for (Method m : NailRods.class.getDeclaredMethods()) {
            if (Modifier.isPrivate(m.getModifiers()) || m.isSynthetic()) {
                continue;
            }
            names.add(m.getName());
            if (!missing.remove(signature(m)) || m.getModifiers() != Modifier.PUBLIC) {
                wrong.add("not in the document: " + m);
            }
        }
        missing.forEach(m -> wrong.add("missing: " + m));
        lookForOpenFields(wrong);
        lookAt(NailRods.class, names, wrong);
        for (Class<?> inside : NailRods.class.getDeclaredClasses()) {
            lookAt(inside, names, wrong);
        }
        Constructor<?>[] constructors = NailRods.class.getDeclaredConstructors();
        if (constructors.length != 1 || constructors[0].getModifiers() != Modifier.PUBLIC
                || constructors[0].getParameterCount() != 0) {
            wrong.add("the constructor");
        }
        if (NailRods.class.getModifiers() != (Modifier.PUBLIC | Modifier.FINAL)) {
            wrong.add("the class is not public and final");
        }
        wrong.forEach(System.out::println);
        if (!wrong.isEmpty()) {
            System.exit(1);
        }
        System.out.println("the face is the document's");
    }

    private static String signature(Method m) {
        StringBuilder text = new StringBuilder();
        text.append(m.getReturnType().getSimpleName()).append(' ').append(m.getName());
        text.append(' ').append(m.getParameterCount());
        for (Class<?> parameter : m.getParameterTypes()) {
            text.append(parameter == int.class ? "" : " of another type");
        }
        for (Class<?> thrown : m.getExceptionTypes()) {
            text.append(' ').append(thrown.getSimpleName());
        }
        return text.toString();
    }

    /** LANGUAGE.md, rule 1: of the classes inside the members may be seen, of the class of the face only the face. */
    private static void lookForOpenFields(Set<String> wrong) {
        for (Field f : NailRods.class.getDeclaredFields()) {
            if (!Modifier.isPrivate(f.getModifiers()) && !f.isSynthetic()) {
                wrong.add("not private: " + f);
            }
        }
    }

    private static void lookAt(Class<?> type, Set<String> names, Set<String> wrong) {
        for (Field f : type.getDeclaredFields()) {
            if (Modifier.isStatic(f.getModifiers()) && !Modifier.isFinal(f.getModifiers()) && !f.isSynthetic()) {
                wrong.add("static and not final: " + f);
            }
        }
        for (Method m : type.getDeclaredMethods()) {
            if (Modifier.isPrivate(m.getModifiers()) && names.contains(m.getName())) {
                wrong.add("private with a public one's name: " + m);
            }
        }
    }
}
