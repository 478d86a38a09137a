import java.lang.reflect.Constructor;
import java.lang.reflect.Executable;
import java.lang.reflect.Field;
import java.lang.reflect.Method;
import java.lang.reflect.Modifier;
import java.util.Arrays;
import java.util.Set;
import java.util.TreeSet;
import java.util.stream.Collectors;

/** The face is the document's: its members and the exceptions that they declare, and no others. */
public final class FaceTest {
    private static final String[] FACE = {
        "ChainExchange()",
        "int NOBODY",
        "int pair(int,int,int) IllegalArgumentException UnsupportedOperationException",
        "int altruist(int) IllegalArgumentException UnsupportedOperationException",
        "boolean bar(int,int,boolean) IndexOutOfBoundsException IllegalArgumentException",
        "boolean stay(int,boolean) IndexOutOfBoundsException",
        "int members(boolean)",
        "boolean can(int,int)",
        "int plan(int,int) IllegalArgumentException",
        "int giver(int) IllegalStateException IndexOutOfBoundsException",
        "int parts(boolean) IllegalStateException",
        "int length(int) IllegalStateException IndexOutOfBoundsException",
        "int carry() IllegalStateException",
        "int done()",
        "void propose(int,int) IndexOutOfBoundsException",
        "int judge(int,int) IndexOutOfBoundsException IllegalArgumentException"
                + " IllegalStateException NoSuchElementException UnsupportedOperationException",
        "void adopt() IllegalStateException",
    };

    public static void main(String[] args) {
        Checks.due("the face", new TreeSet<>(Arrays.asList(FACE)), () -> faceOf(ChainExchange.class));
        Checks.due("the class's modifiers", "public final",
                () -> Modifier.toString(ChainExchange.class.getModifiers()));
        Checks.due("NOBODY's modifiers", "public static final",
                () -> Modifier.toString(ChainExchange.class.getField("NOBODY").getModifiers()));
        classesInsideAreStaticAndHidden();
        noPrivateMethodBearsAPublicName();
        Checks.finish();
    }

    private static Set<String> faceOf(Class<?> type) {
        Set<String> face = new TreeSet<>();
        for (Field field : type.getDeclaredFields()) {
            if (!Modifier.isPrivate(field.getModifiers())) {
                face.add(field.getType() + " " + field.getName());
            }
        }
        for (Constructor<?> constructor : type.getDeclaredConstructors()) {
            if (!Modifier.isPrivate(constructor.getModifiers())) {
                face.add(type.getName() + signature(constructor));
            }
        }
        for (Method method : type.getDeclaredMethods()) {
            if (!Modifier.isPrivate(method.getModifiers())) {
                face.add(method.getReturnType() + " " + method.getName() + signature(method));
            }
        }
        return face;
    }

    private static String signature(Executable call) {
        StringBuilder text = new StringBuilder(Arrays.stream(call.getParameterTypes())
                .map(Class::getSimpleName).collect(Collectors.joining(",", "(", ")")));
        for (Class<?> thrown : call.getExceptionTypes()) {
            text.append(' ').append(thrown.getSimpleName());
        }
        return text.toString();
    }

    private static void classesInsideAreStaticAndHidden() {
        for (Class<?> inside : ChainExchange.class.getDeclaredClasses()) {
            int modifiers = inside.getModifiers();
            Checks.due(inside.getName() + " is static", true, () -> Modifier.isStatic(modifiers));
            Checks.due(inside.getName() + " is seen outside", false,
                    () -> Modifier.isPublic(modifiers) || Modifier.isProtected(modifiers));
        }
    }

    private static void noPrivateMethodBearsAPublicName() {
        for (Method method : ChainExchange.class.getDeclaredMethods()) {
            boolean isPrivate = Modifier.isPrivate(method.getModifiers());
            Checks.due(method.getName() + " is a private name of a public method", false,
                    () -> isPrivate && isPublicName(method.getName()));
        }
    }

    private static boolean isPublicName(String name) {
        return Arrays.stream(ChainExchange.class.getMethods())
                .anyMatch(method -> method.getName().equals(name));
    }
}
