import java.lang.reflect.Constructor;
import java.lang.reflect.Field;
import java.lang.reflect.Method;
import java.lang.reflect.Modifier;
import java.util.ArrayList;
import java.util.Collections;
import java.util.HashSet;
import java.util.List;
import java.util.Set;

/** The public face, with its constants, and what LANGUAGE.md asks of the members beside it. */
public final class FaceTest {
    private static final String[] FACE = {
        "void setGame(int, int, int, int) IndexOutOfBoundsException IllegalArgumentException",
        "void setParts(int, int, int, int) IndexOutOfBoundsException IllegalArgumentException",
        "int setSeats(int, int) IndexOutOfBoundsException IllegalArgumentException IllegalStateException",
        "boolean teach(int, int, boolean) IndexOutOfBoundsException",
        "int buy(int) IndexOutOfBoundsException IllegalStateException",
        "int count(int, int, int) IndexOutOfBoundsException IllegalArgumentException IllegalStateException",
        "int fill(int, int) IndexOutOfBoundsException IllegalArgumentException IllegalStateException",
        "int seat(int, int, boolean) IndexOutOfBoundsException IllegalArgumentException IllegalStateException",
        "int grow(int, int) IndexOutOfBoundsException IllegalArgumentException IllegalStateException",
        "int go(int) IndexOutOfBoundsException",
        "int advance(int) IllegalArgumentException IllegalStateException",
        "int lend(int, int) IndexOutOfBoundsException IllegalStateException",
        "int giveBack(int, int, int) IndexOutOfBoundsException IllegalArgumentException IllegalStateException",
        "int minute()",
        "int copies()",
        "int parts(int, int) IndexOutOfBoundsException",
        "boolean canBePlayed(int) IndexOutOfBoundsException",
        "int whereIs(int) IndexOutOfBoundsException",
        "int at(int) IndexOutOfBoundsException",
        "int copyOf(int) IndexOutOfBoundsException",
        "int teaching(int) IndexOutOfBoundsException",
        "int plays(int) IndexOutOfBoundsException",
        "int propose(int) IllegalArgumentException",
    };

    public static void main(String[] args) {
        constants();
        methods();
        constructors();
        fields();
        classesInside();
        Due.end();
    }

    private static void constants() {
        Due.is("NONE", -1, GameCafe.NONE);
        Due.is("SHELF", 0, GameCafe.SHELF);
        Due.is("TABLE", 1, GameCafe.TABLE);
        Due.is("LENT", 2, GameCafe.LENT);
    }

    private static void methods() {
        List<String> shown = new ArrayList<>();
        Set<String> publicNames = new HashSet<>();
        for (Method method : GameCafe.class.getDeclaredMethods()) {
            if (!Modifier.isPrivate(method.getModifiers())) {
                shown.add(written(method));
                publicNames.add(method.getName());
                Due.is(method + " is public", true, Modifier.isPublic(method.getModifiers()));
                Due.is(method + " is static", false, Modifier.isStatic(method.getModifiers()));
            }
        }
        List<String> due = new ArrayList<>(List.of(FACE));
        Collections.sort(shown);
        Collections.sort(due);
        Due.is("the methods " + shown + " are " + due, true, shown.equals(due));
        for (Method method : GameCafe.class.getDeclaredMethods()) {
            if (Modifier.isPrivate(method.getModifiers())) {
                Due.is(method + " has a public one's name", false, publicNames.contains(method.getName()));
            }
        }
    }

    private static String written(Method method) {
        StringBuilder text = new StringBuilder();
        text.append(method.getReturnType()).append(' ').append(method.getName()).append('(');
        String gap = "";
        for (Class<?> type : method.getParameterTypes()) {
            text.append(gap).append(type);
            gap = ", ";
        }
        text.append(')');
        for (Class<?> thrown : method.getExceptionTypes()) {
            text.append(' ').append(thrown.getSimpleName());
        }
        return text.toString();
    }

    private static void constructors() {
        Constructor<?>[] made = GameCafe.class.getDeclaredConstructors();
        Due.is("the constructors", 1, made.length);
        Due.is("the constructor's parameters", 0, made[0].getParameterCount());
        Due.is("the constructor is public", true, Modifier.isPublic(made[0].getModifiers()));
        Due.is("the class is public", true, Modifier.isPublic(GameCafe.class.getModifiers()));
        Due.is("the class is final", true, Modifier.isFinal(GameCafe.class.getModifiers()));
    }

    private static void fields() {
        Set<String> face = Set.of("NONE", "SHELF", "TABLE", "LENT");
        int seen = 0;
        for (Field field : GameCafe.class.getDeclaredFields()) {
            int is = field.getModifiers();
            if (face.contains(field.getName())) {
                seen++;
                Due.is(field + " is a public constant", true,
                        Modifier.isPublic(is) && Modifier.isStatic(is) && Modifier.isFinal(is));
            } else {
                Due.is(field + " is private", true, Modifier.isPrivate(is));
                Due.is(field + " is static and can change", false,
                        Modifier.isStatic(is) && !Modifier.isFinal(is));
            }
        }
        Due.is("the constants of the face", 4, seen);
    }

    private static void classesInside() {
        for (Class<?> inside : GameCafe.class.getDeclaredClasses()) {
            int is = inside.getModifiers();
            Due.is(inside + " is static", true, Modifier.isStatic(is));
            Due.is(inside + " is public or protected", false,
                    Modifier.isPublic(is) || Modifier.isProtected(is));
        }
    }
}
