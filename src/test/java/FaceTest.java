import java.lang.reflect.Constructor;
import java.lang.reflect.Field;
import java.lang.reflect.Method;
import java.lang.reflect.Modifier;
import java.util.TreeSet;

/** The public face is that of the document, and no other member is seen from outside. */
public final class FaceTest {
    private static final String[] FACE = {
        "int regulation(int,int,int,int,int,int,boolean) IllegalArgumentException IllegalStateException",
        "int member(int,int) IllegalArgumentException IllegalStateException",
        "int tie(int,int,char) IndexOutOfBoundsException IllegalArgumentException IllegalStateException",
        "int kin(int,int) IndexOutOfBoundsException UnsupportedOperationException",
        "int candidate(char,boolean) IllegalArgumentException UnsupportedOperationException IllegalStateException",
        "char mode(int,char) IndexOutOfBoundsException IllegalArgumentException UnsupportedOperationException",
        "int pause(int,char) IndexOutOfBoundsException IllegalArgumentException UnsupportedOperationException",
        "int resume(int) IndexOutOfBoundsException UnsupportedOperationException",
        "int move(int,int) IndexOutOfBoundsException UnsupportedOperationException",
        "int extend(int,int) IndexOutOfBoundsException IllegalArgumentException UnsupportedOperationException",
        "int pass(int) IllegalArgumentException IllegalStateException",
        "int month()",
        "int clock(int) IndexOutOfBoundsException",
        "int limit(int) IndexOutOfBoundsException",
        "int reaches(int) IndexOutOfBoundsException NoSuchElementException",
        "char state(int) IndexOutOfBoundsException",
        "char outcome(int) IndexOutOfBoundsException",
        "int supervise(int,int,boolean) IndexOutOfBoundsException UnsupportedOperationException",
        "int release(int,int) IndexOutOfBoundsException UnsupportedOperationException",
        "int supervisor(int,int) IndexOutOfBoundsException NoSuchElementException",
        "int load(int) IndexOutOfBoundsException",
        "int grant(int,int,int,int) IndexOutOfBoundsException IllegalArgumentException"
                + " UnsupportedOperationException IllegalStateException",
        "int left(int) IndexOutOfBoundsException",
        "int money(int) IndexOutOfBoundsException",
        "int gap(int) IndexOutOfBoundsException UnsupportedOperationException",
        "int ethics(int) IndexOutOfBoundsException UnsupportedOperationException",
        "char upgrade(int,int,boolean,int,boolean) IndexOutOfBoundsException UnsupportedOperationException",
        "int publish(int) IndexOutOfBoundsException UnsupportedOperationException",
        "int deposit(int,int) IndexOutOfBoundsException IllegalArgumentException UnsupportedOperationException",
        "int clear(int,int) IndexOutOfBoundsException UnsupportedOperationException",
        "char barred(int,int) IndexOutOfBoundsException",
        "int examiners(int,int,int) IndexOutOfBoundsException UnsupportedOperationException",
        "char viva(int,char,char) IndexOutOfBoundsException IllegalArgumentException UnsupportedOperationException",
        "char adjudicate(int,int,char) IndexOutOfBoundsException IllegalArgumentException"
                + " UnsupportedOperationException",
        "int due(int) IndexOutOfBoundsException NoSuchElementException",
        "boolean sign(int,int) IndexOutOfBoundsException UnsupportedOperationException",
        "int award(int) IndexOutOfBoundsException UnsupportedOperationException",
        "boolean appeal(int,boolean) IndexOutOfBoundsException UnsupportedOperationException",
        "int ground(int,char) IndexOutOfBoundsException IllegalArgumentException UnsupportedOperationException",
        "char reason(int,int) IndexOutOfBoundsException NoSuchElementException",
        "boolean panel(int,int,int,int,int) IndexOutOfBoundsException IllegalArgumentException"
                + " UnsupportedOperationException",
        "int papers(int) IndexOutOfBoundsException",
        "int withdrawn()",
        "long checksum()",
        "float awardShare(int,int) ArithmeticException",
        "double meanClock() ArithmeticException",
        "boolean isSound()",
    };

    private FaceTest() {
    }

    public static void main(String[] args) {
        Check check = new Check("FaceTest");
        check.same("modifiers of the class", Modifier.toString(Vivahouse.class.getModifiers()), "public final");
        TreeSet<String> seen = new TreeSet<>();
        TreeSet<String> hidden = new TreeSet<>();
        for (Method m : Vivahouse.class.getDeclaredMethods()) {
            if (Modifier.isPrivate(m.getModifiers())) {
                hidden.add(m.getName());
            } else {
                seen.add(textOf(m));
                check.same("modifiers of " + m.getName(), Modifier.toString(m.getModifiers()), "public");
            }
        }
        check.same("the face", String.join("; ", seen), String.join("; ", new TreeSet<>(java.util.List.of(FACE))));
        for (Method m : Vivahouse.class.getMethods()) {
            check.same("no private method is named " + m.getName(), hidden.contains(m.getName()), false);
        }
        for (Field f : Vivahouse.class.getDeclaredFields()) {
            check.same(f.getName() + " is private", Modifier.isPrivate(f.getModifiers()), true);
        }
        Constructor<?>[] made = Vivahouse.class.getDeclaredConstructors();
        check.same("constructors", made.length, 1);
        check.same("parameters of the constructor", made[0].getParameterCount(), 0);
        check.same("modifiers of the constructor", Modifier.toString(made[0].getModifiers()), "public");
        check.end();
    }

    private static String textOf(Method m) {
        StringBuilder text = new StringBuilder(m.getReturnType().getSimpleName() + " " + m.getName() + "(");
        for (int i = 0; i < m.getParameterCount(); i++) {
            text.append(i == 0 ? "" : ",").append(m.getParameterTypes()[i].getSimpleName());
        }
        text.append(')');
        for (Class<?> thrown : m.getExceptionTypes()) {
            text.append(' ').append(thrown.getSimpleName());
        }
        return text.toString();
    }
}
