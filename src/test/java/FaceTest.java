import java.lang.reflect.Constructor;
import java.lang.reflect.Field;
import java.lang.reflect.Method;
import java.lang.reflect.Modifier;
import java.util.ArrayList;
import java.util.List;
import java.util.TreeSet;

/** The class shows the document's face, and nothing else. */
public final class FaceTest {
    private static final String A = " throws IllegalArgumentException";
    private static final String I = " throws IndexOutOfBoundsException";
    private static final String[] FACE = {
        "int feed(int,int,int,int,int)", "boolean end(int)", "int valley()" + A + ",UnsupportedOperationException",
        "int law()" + A, "int fault()", "long rule(int,boolean)" + I, "long field(int)" + I, "long seen(int,boolean)" + I,
        "int beast(long,int)" + A, "int steps(int)" + I, "int maker(int,int,int)" + I + ",NoSuchElementException",
        "boolean fits(long,int,int)" + I + ",IllegalArgumentException", "long use(int,int,int)" + I + ",IllegalStateException",
        "int run(int,int)" + I + ",IllegalArgumentException", "long put(int,long)" + I + ",IllegalArgumentException",
        "int add(long,long)" + A + ",UnsupportedOperationException", "int drop(int)" + I,
        "int years(int,int)" + I + ",IllegalArgumentException", "long settles(long,int,boolean)" + A,
        "int again(long,boolean)" + A, "boolean alike(long,long)" + A,
        "long becomes(long,int,int)" + A + ",NoSuchElementException", "int fewest(long,long)" + A,
        "long meets(long,long,int,boolean)" + A, "long overlaps(int) throws NoSuchElementException",
        "int complete() throws UnsupportedOperationException",
        "int never(long,long,int)" + A + ",IndexOutOfBoundsException", "int falls(int,int)" + A + ",IndexOutOfBoundsException",
        "int light(long)" + A, "int loss(int)" + I, "long endless()", "long reckons(int,int)" + A, "int dropped(int)",
        "int explained(int)" + I, "int telling()", "long guessed(int) throws NoSuchElementException",
        "int drovers(long,int)" + A, "int best(long,int)" + A, "int sorts(int) throws NoSuchElementException",
        "int seed(int)", "boolean undo()", "void image()", "boolean back()", "int count(int)",
    };

    public static void main(String[] args) {
        Class<?> face = BeastRules.class;
        Kit.due("the class", Modifier.PUBLIC | Modifier.FINAL, () -> face.getModifiers());
        Kit.due("no class above it", Object.class, () -> face.getSuperclass());
        Kit.due("the methods", new TreeSet<>(List.of(FACE)), () -> shown(face));
        Kit.due("no private method has the name of a public one", "[]", () -> doubled(face));
        Kit.due("the constructors", 1, () -> face.getDeclaredConstructors().length);
        for (Constructor<?> made : face.getDeclaredConstructors()) {
            Kit.due("the constructor", "public BeastRules()", () -> made.toString());
        }
        for (Field field : face.getDeclaredFields()) {
            boolean told = field.getName().equals("NONE");
            int want = told ? Modifier.PUBLIC | Modifier.STATIC | Modifier.FINAL : Modifier.PRIVATE;
            int mask = told ? -1 : Modifier.PUBLIC | Modifier.PROTECTED | Modifier.PRIVATE;
            Kit.due("field " + field.getName(), want, () -> field.getModifiers() & mask);
            Kit.due("field " + field.getName() + " is final, if it is static", true,
                    () -> !Modifier.isStatic(field.getModifiers()) || Modifier.isFinal(field.getModifiers()));
        }
        for (Class<?> inside : face.getDeclaredClasses()) {
            Kit.due(inside.getName() + " is static and not public", true, () -> Modifier.isStatic(inside.getModifiers())
                    && !Modifier.isPublic(inside.getModifiers()) && !Modifier.isProtected(inside.getModifiers()));
        }
        Kit.due("the classes", true, () -> face.getDeclaredClasses().length <= 12);
        Kit.finish("FaceTest");
    }

    private static TreeSet<String> shown(Class<?> face) {
        TreeSet<String> shown = new TreeSet<>();
        for (Method method : face.getDeclaredMethods()) {
            if (!Modifier.isPrivate(method.getModifiers())) {
                shown.add(told(method));
            }
        }
        return shown;
    }

    private static String told(Method method) {
        StringBuilder told = new StringBuilder(Modifier.isPublic(method.getModifiers()) ? "" : "not public ");
        told.append(method.getReturnType()).append(' ').append(method.getName()).append('(');
        told.append(names(method.getParameterTypes())).append(')');
        if (method.getExceptionTypes().length > 0) {
            told.append(" throws ").append(names(method.getExceptionTypes()));
        }
        return told.toString();
    }

    private static String names(Class<?>[] types) {
        List<String> names = new ArrayList<>();
        for (Class<?> type : types) {
            names.add(type.getSimpleName());
        }
        return String.join(",", names);
    }

    private static TreeSet<String> doubled(Class<?> face) {
        TreeSet<String> publics = new TreeSet<>();
        TreeSet<String> others = new TreeSet<>();
        for (Method method : face.getDeclaredMethods()) {
            (Modifier.isPublic(method.getModifiers()) ? publics : others).add(method.getName());
        }
        others.retainAll(publics);
        return others;
    }
}
