import java.lang.reflect.Constructor;
import java.lang.reflect.Method;
import java.lang.reflect.Modifier;
import java.util.Set;
import java.util.TreeSet;

/** The public face is that of the document, and nothing else can be seen from outside. */
final class FaceTest {
    private static final String[] FACE = {
        "int swell(int int int int int) IllegalArgumentException IllegalStateException",
        "int bank(int int int int) IllegalArgumentException IllegalStateException",
        "int tide(int) IllegalArgumentException",
        "int wave(int int) IndexOutOfBoundsException IllegalArgumentException",
        "int best(int int int int) IndexOutOfBoundsException IllegalArgumentException",
        "int surfer(int) IllegalArgumentException IllegalStateException",
        "int heat(int int int int) IndexOutOfBoundsException IllegalArgumentException IllegalStateException",
        "int ride(int int int int boolean) IndexOutOfBoundsException IllegalArgumentException"
            + " UnsupportedOperationException",
        "int mark(int) IllegalArgumentException IllegalStateException",
        "int wipe()",
        "int miss(int int int) IndexOutOfBoundsException UnsupportedOperationException",
        "int block(int int int) IndexOutOfBoundsException UnsupportedOperationException",
        "int suspend(int int int) IndexOutOfBoundsException UnsupportedOperationException",
        "int leave(int int int) IndexOutOfBoundsException UnsupportedOperationException",
        "boolean restart(int int) IndexOutOfBoundsException UnsupportedOperationException",
        "int close(int) IndexOutOfBoundsException UnsupportedOperationException",
        "boolean isOpen(int) IndexOutOfBoundsException",
        "int place(int int) IndexOutOfBoundsException NoSuchElementException",
        "int first(int) IndexOutOfBoundsException NoSuchElementException",
        "int score(int int int) IndexOutOfBoundsException NoSuchElementException",
        "int total(int int) IndexOutOfBoundsException NoSuchElementException",
        "int hindered(int int char) IndexOutOfBoundsException IllegalArgumentException NoSuchElementException",
        "int rank(int int) IndexOutOfBoundsException NoSuchElementException",
        "int ranked(int int) IndexOutOfBoundsException NoSuchElementException",
        "int need(int int int) IndexOutOfBoundsException UnsupportedOperationException NoSuchElementException",
        "int acts(int) IndexOutOfBoundsException",
        "int event(int) IndexOutOfBoundsException UnsupportedOperationException IllegalStateException",
        "int round(int int) IndexOutOfBoundsException IllegalArgumentException UnsupportedOperationException"
            + " IllegalStateException",
        "int rounds(int) IndexOutOfBoundsException",
        "int heatOf(int int int) IndexOutOfBoundsException NoSuchElementException",
        "int surferAt(int int) IndexOutOfBoundsException NoSuchElementException",
        "int eventPoints(int int) IndexOutOfBoundsException",
        "int drop(int) IllegalArgumentException",
        "int points(int) IndexOutOfBoundsException",
        "int seed(int) NoSuchElementException",
        "int cut(int) IllegalArgumentException",
        "boolean isCut(int) IndexOutOfBoundsException",
        "long checksum()",
        "float openShare() ArithmeticException",
        "double meanScore(int) IndexOutOfBoundsException ArithmeticException",
        "boolean isSound()",
    };

    private FaceTest() {
    }

    static void run() {
        Set<String> due = new TreeSet<>(Set.of(FACE));
        Set<String> got = new TreeSet<>();
        Set<String> hidden = new TreeSet<>();
        for (Method method : Prioritywave.class.getDeclaredMethods()) {
            if (Modifier.isPrivate(method.getModifiers())) {
                hidden.add(method.getName());
            } else {
                Check.yes(method.getName() + " is public", Modifier.isPublic(method.getModifiers()));
                got.add(told(method));
                hidden.remove(method.getName());
            }
        }
        Check.tell(got.equals(due), "the face", got.toString(), due.toString());
        for (String line : FACE) {
            String name = line.substring(line.indexOf(' ') + 1, line.indexOf('('));
            Check.no("no private method bears the name " + name, hidden.contains(name));
        }
        for (java.lang.reflect.Field field : Prioritywave.class.getDeclaredFields()) {
            Check.yes(field.getName() + " is private", Modifier.isPrivate(field.getModifiers()));
        }
        for (Class<?> inside : Prioritywave.class.getDeclaredClasses()) {
            for (Method method : inside.getDeclaredMethods()) {
                String line = method.getName() + "(";
                boolean isOfFace = false;
                for (String told : FACE) {
                    isOfFace |= told.contains(" " + line);
                }
                Check.no(inside.getSimpleName() + "." + line + ") bears no name of the face", isOfFace);
            }
        }
        Constructor<?>[] constructors = Prioritywave.class.getDeclaredConstructors();
        Check.same("1: constructors", constructors.length, 1);
        Check.same("1: its parameters", constructors[0].getParameterCount(), 0);
        Check.yes("1: public", Modifier.isPublic(constructors[0].getModifiers()));
        int modifiers = Prioritywave.class.getModifiers();
        Check.yes("public and final", Modifier.isPublic(modifiers) && Modifier.isFinal(modifiers));
        Check.same("classes inside", Math.min(11, Prioritywave.class.getDeclaredClasses().length),
                Prioritywave.class.getDeclaredClasses().length);
        for (Class<?> inside : Prioritywave.class.getDeclaredClasses()) {
            Check.yes(inside.getName() + " is static", Modifier.isStatic(inside.getModifiers()));
            Check.no(inside.getName() + " is not public", Modifier.isPublic(inside.getModifiers()));
            Check.yes(inside.getName() + " has some twenty fields", inside.getDeclaredFields().length <= 20);
        }
    }

    private static String told(Method method) {
        StringBuilder told = new StringBuilder(method.getReturnType().getSimpleName());
        told.append(' ').append(method.getName()).append('(');
        String gap = "";
        for (Class<?> parameter : method.getParameterTypes()) {
            told.append(gap).append(parameter.getSimpleName());
            gap = " ";
        }
        told.append(')');
        for (Class<?> thrown : method.getExceptionTypes()) {
            told.append(' ').append(thrown.getSimpleName());
        }
        return told.toString();
    }
}
