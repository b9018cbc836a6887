import java.lang.reflect.Constructor;
import java.lang.reflect.Field;
import java.lang.reflect.Method;
import java.lang.reflect.Modifier;
import java.util.ArrayList;
import java.util.Arrays;
import java.util.List;
import java.util.TreeSet;

/** The face of the class is that of the document, and nothing more of it can be seen (LANGUAGE.md, rule 1). */
public final class FaceTest {
    private static final String[] FACE = {
        "int addKey(int,int,int) IllegalArgumentException IllegalStateException",
        "int loseKey(int) IndexOutOfBoundsException IllegalStateException",
        "int extendKey(int,int) IndexOutOfBoundsException IllegalArgumentException IllegalStateException",
        "boolean isLive(int) IndexOutOfBoundsException",
        "int setWeight(int,int) IllegalArgumentException",
        "int setThreshold(int,int) IllegalArgumentException",
        "int build(int,int,int) IllegalArgumentException UnsupportedOperationException IllegalStateException",
        "int nameOf(int) IndexOutOfBoundsException",
        "int version(int) IndexOutOfBoundsException",
        "boolean uses(int,int) IndexOutOfBoundsException",
        "int used(int) IndexOutOfBoundsException",
        "int newest(int) IllegalArgumentException NoSuchElementException",
        "int attest(int,int) IndexOutOfBoundsException IllegalStateException UnsupportedOperationException",
        "boolean vouches(int,int) IndexOutOfBoundsException IllegalArgumentException",
        "boolean vouchesByList(int,int) IndexOutOfBoundsException IllegalArgumentException",
        "float score(int) IndexOutOfBoundsException",
        "int scoreBits(int) IndexOutOfBoundsException",
        "boolean isTrusted(int) IndexOutOfBoundsException",
        "int hangsOnKey(int) IndexOutOfBoundsException",
        "int recall(int) IndexOutOfBoundsException IllegalStateException",
        "int lift(int) IndexOutOfBoundsException IllegalStateException",
        "boolean isRecalled(int) IndexOutOfBoundsException",
        "boolean rebuild(int,int) IndexOutOfBoundsException IllegalStateException",
        "float share(int) IndexOutOfBoundsException NoSuchElementException",
        "int addMirror() IllegalStateException",
        "int update(int) IndexOutOfBoundsException",
        "boolean isExpired(int) IndexOutOfBoundsException",
        "int setExpiry(int) IllegalArgumentException",
        "int install(int,int) IndexOutOfBoundsException IllegalArgumentException"
                + " UnsupportedOperationException NoSuchElementException",
        "int pass(int) IllegalArgumentException",
        "int day()",
        "long scoreSumBits()",
    };
    private static final Checks CHECKS = new Checks("FaceTest");

    public static void main(String[] args) {
        CHECKS.promise(1);
        CHECKS.due("modifiers of the class", Buildlots.class.getModifiers(), Modifier.PUBLIC | Modifier.FINAL);
        Constructor<?>[] constructors = Buildlots.class.getDeclaredConstructors();
        CHECKS.due("constructors", constructors.length, 1);
        CHECKS.due("constructor", constructors[0].toString(), "public Buildlots()");
        TreeSet<String> publicOnes = new TreeSet<>();
        List<String> publicNames = new ArrayList<>();
        for (Method method : Buildlots.class.getDeclaredMethods()) {
            if (Modifier.isPublic(method.getModifiers())) {
                publicOnes.add(written(method));
                publicNames.add(method.getName());
            } else {
                CHECKS.due("private " + method, Modifier.isPrivate(method.getModifiers()), true);
            }
        }
        CHECKS.due("public methods", publicOnes, new TreeSet<>(Arrays.asList(FACE)));
        checkFields(Buildlots.class);
        checkPrivateNames(Buildlots.class, publicNames);
        for (Class<?> inside : Buildlots.class.getDeclaredClasses()) {
            CHECKS.due("static " + inside, Modifier.isStatic(inside.getModifiers()), true);
            CHECKS.due("hidden " + inside, Modifier.isPublic(inside.getModifiers()), false);
            checkPrivateNames(inside, publicNames);
        }
        CHECKS.end();
    }

    private static String written(Method method) {
        StringBuilder text = new StringBuilder();
        text.append(method.getReturnType().getName()).append(' ').append(method.getName()).append('(');
        for (int i = 0; i < method.getParameterCount(); i++) {
            text.append(i == 0 ? "" : ",").append(method.getParameterTypes()[i].getName());
        }
        text.append(')');
        for (Class<?> exception : method.getExceptionTypes()) {
            text.append(' ').append(exception.getSimpleName());
        }
        return text.toString();
    }

    private static void checkFields(Class<?> type) {
        for (Field field : type.getDeclaredFields()) {
            int modifiers = field.getModifiers();
            CHECKS.due("private " + field, Modifier.isPrivate(modifiers), true);
            CHECKS.due("final if static " + field, !Modifier.isStatic(modifiers) || Modifier.isFinal(modifiers), true);
        }
    }

    private static void checkPrivateNames(Class<?> type, List<String> publicNames) {
        for (Method method : type.getDeclaredMethods()) {
            if (Modifier.isPrivate(method.getModifiers())) {
                CHECKS.due("name of its own " + method, publicNames.contains(method.getName()), false);
            }
        }
    }
}
