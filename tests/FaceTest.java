import java.io.IOException;
import java.lang.reflect.Constructor;
import java.lang.reflect.Field;
import java.lang.reflect.Method;
import java.lang.reflect.Modifier;
import java.nio.file.Files;
import java.nio.file.Path;
import java.util.ArrayList;
import java.util.Collection;
import java.util.List;
import java.util.Set;
import java.util.TreeSet;

/** Compares the class with 'The public face' of the document, line by line, and with rule 1 of LANGUAGE.md. */
public final class FaceTest extends Checks {

    /** The lines of the document's class, without the semicolons and the names of parameters. */
    private static List<String> promised() throws IOException {
        List<String> out = new ArrayList<>();
        boolean isInside = false;
        for (String line : Files.readAllLines(Path.of("../shared/DOC.md"))) {
            if (line.startsWith("public final class Seattable")) {
                isInside = true;
            } else if (line.equals("}")) {
                isInside = false;
            } else if (isInside) {
                out.add(line.trim().replace(";", "").replaceAll("(int|long|boolean) \\w+(?=[,)])", "$1"));
            }
        }
        return out;
    }

    private static String namesOf(Class<?>[] types) {
        List<String> names = new ArrayList<>();
        for (Class<?> type : types) {
            names.add(type.getSimpleName());
        }
        return String.join(", ", names);
    }

    private static String told(int modifiers, String what, Class<?>[] parameters, Class<?>[] exceptions) {
        String thrown = exceptions.length == 0 ? "" : " throws " + namesOf(exceptions);
        return Modifier.toString(modifiers) + " " + what + "(" + namesOf(parameters) + ")" + thrown;
    }

    private static Set<String> built() throws IllegalAccessException {
        Set<String> out = new TreeSet<>();
        for (Field field : Seattable.class.getDeclaredFields()) {
            if (!Modifier.isPrivate(field.getModifiers())) {
                Object value = Modifier.isStatic(field.getModifiers()) ? field.get(null) : "of each object";
                out.add(Modifier.toString(field.getModifiers()) + " " + field.getType() + " " + field.getName()
                        + " = " + value);
            }
        }
        for (Constructor<?> made : Seattable.class.getDeclaredConstructors()) {
            if (!Modifier.isPrivate(made.getModifiers())) {
                out.add(told(made.getModifiers(), "Seattable", made.getParameterTypes(), made.getExceptionTypes()));
            }
        }
        for (Method method : Seattable.class.getDeclaredMethods()) {
            if (!Modifier.isPrivate(method.getModifiers())) {
                String what = method.getReturnType().getSimpleName() + " " + method.getName();
                out.add(told(method.getModifiers(), what, method.getParameterTypes(), method.getExceptionTypes()));
            }
        }
        return out;
    }

    private static Set<String> without(Collection<String> some, Collection<String> others) {
        Set<String> out = new TreeSet<>(some);
        out.removeAll(others);
        return out;
    }

    private static void noNameTwice() {
        Set<String> face = new TreeSet<>();
        for (Method method : Seattable.class.getMethods()) {
            face.add(method.getName());
        }
        List<Class<?>> all = new ArrayList<>(List.of(Seattable.class.getDeclaredClasses()));
        for (Class<?> inside : all) {
            is("static", Modifier.isStatic(inside.getModifiers()) ? "static" : inside.getName());
            is(false, Modifier.isPublic(inside.getModifiers()) || Modifier.isProtected(inside.getModifiers()));
        }
        all.add(Seattable.class);
        for (Class<?> owner : all) {
            for (Method method : owner.getDeclaredMethods()) {
                boolean isOfFace = owner == Seattable.class && Modifier.isPublic(method.getModifiers());
                is("", !isOfFace && face.contains(method.getName()) ? method.toString() : "");
            }
        }
    }

    public static void main(String[] args) throws IOException, IllegalAccessException {
        says("'The public face': the constants, constructors and methods of the document, and no other");
        is(54, promised().size());
        is("[]", without(promised(), built()).toString());
        is("[]", without(built(), promised()).toString());
        says("'The public face': public final class Seattable, without a package");
        is("public final", Modifier.toString(Seattable.class.getModifiers()));
        is("Seattable", Seattable.class.getName());
        is(Object.class, Seattable.class.getSuperclass());
        is(0, Seattable.class.getInterfaces().length);
        says("LANGUAGE.md, rule 1: classes inside are private or package-visible; no private method has a public name");
        noNameTwice();
        finish("FaceTest");
    }
}
