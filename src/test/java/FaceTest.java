import java.lang.reflect.Constructor;
import java.lang.reflect.Field;
import java.lang.reflect.Method;
import java.lang.reflect.Modifier;
import java.util.ArrayList;
import java.util.Arrays;
import java.util.HashSet;
import java.util.List;
import java.util.Set;

/** The public face, as the document writes it, and rule 1 of LANGUAGE.md. */
public final class FaceTest {
    private static final Check CHECK = new Check("FaceTest");
    private static final String[] FACE = {
        "int write(int,int) IndexOutOfBoundsException IllegalArgumentException",
        "int erase(int) IndexOutOfBoundsException NoSuchElementException",
        "int move(int,int) IndexOutOfBoundsException NoSuchElementException IllegalStateException",
        "int content(int) IndexOutOfBoundsException NoSuchElementException",
        "int changedPaths()",
        "int commit() IllegalStateException",
        "int branch(int) IndexOutOfBoundsException IllegalStateException",
        "int checkOut(int) IndexOutOfBoundsException NoSuchElementException IllegalStateException",
        "int reset(int) IndexOutOfBoundsException",
        "int merge(int) IndexOutOfBoundsException NoSuchElementException IllegalStateException"
            + " UnsupportedOperationException",
        "int putOnto(int) IndexOutOfBoundsException NoSuchElementException IllegalStateException"
            + " UnsupportedOperationException",
        "int currentBranch()",
        "int head(int) IndexOutOfBoundsException NoSuchElementException",
        "int commits()",
        "int contentIn(int,int) IndexOutOfBoundsException NoSuchElementException",
        "int parentOf(int,int) IndexOutOfBoundsException NoSuchElementException",
        "int generation(int) IndexOutOfBoundsException",
        "boolean isAncestor(int,int) IndexOutOfBoundsException",
        "boolean isAncestorByWalking(int,int) IndexOutOfBoundsException",
        "int base(int,int) IndexOutOfBoundsException",
        "int baseByWalking(int,int) IndexOutOfBoundsException",
        "int bases(int,int) IndexOutOfBoundsException",
        "int movedTo(int,int,int) IndexOutOfBoundsException NoSuchElementException",
        "int conflicts(int,int) IndexOutOfBoundsException",
        "int lastChange(int) IndexOutOfBoundsException NoSuchElementException",
        "int packed()",
        "int depthOf(int) NoSuchElementException",
        "int packedFrom(int) NoSuchElementException",
        "long packSize()",
        "float packShare() ArithmeticException",
        "double meanFiles()",
    };

    public static void main(String[] args) {
        CHECK.isTrue("the class is public and final",
                Modifier.isPublic(ForkHall.class.getModifiers()) && Modifier.isFinal(ForkHall.class.getModifiers()));
        constructors();
        methods();
        fields();
        classesInside();
        CHECK.end();
    }

    private static void constructors() {
        Constructor<?>[] made = ForkHall.class.getDeclaredConstructors();
        CHECK.same("one constructor", made.length, 1);
        CHECK.same("without parameters", made[0].getParameterCount(), 0);
        CHECK.isTrue("and public", Modifier.isPublic(made[0].getModifiers()));
    }

    private static void methods() {
        List<String> found = new ArrayList<>();
        Set<String> publicNames = new HashSet<>();
        for (Method method : ForkHall.class.getDeclaredMethods()) {
            if (Modifier.isPublic(method.getModifiers())) {
                found.add(text(method));
                publicNames.add(method.getName());
            }
        }
        List<String> due = new ArrayList<>(Arrays.asList(FACE));
        found.sort(null);
        due.sort(null);
        CHECK.same("the public methods", String.join("\n", found), String.join("\n", due));
        for (Method method : ForkHall.class.getDeclaredMethods()) {
            if (!Modifier.isPublic(method.getModifiers())) {
                CHECK.isTrue(method.getName() + " is private", Modifier.isPrivate(method.getModifiers()));
                CHECK.isTrue(method.getName() + " has a name of its own", !publicNames.contains(method.getName()));
            }
        }
    }

    private static String text(Method method) {
        StringBuilder text = new StringBuilder();
        text.append(method.getReturnType().getName()).append(' ').append(method.getName()).append('(');
        for (int i = 0; i < method.getParameterCount(); i++) {
            text.append(i == 0 ? "" : ",").append(method.getParameterTypes()[i].getName());
        }
        text.append(')');
        for (Class<?> thrown : method.getExceptionTypes()) {
            text.append(' ').append(thrown.getSimpleName());
        }
        return text.toString();
    }

    private static void fields() {
        for (Field field : ForkHall.class.getDeclaredFields()) {
            CHECK.isTrue(field.getName() + " is private", Modifier.isPrivate(field.getModifiers()));
            CHECK.isTrue(field.getName() + " is no static state",
                    !Modifier.isStatic(field.getModifiers()) || Modifier.isFinal(field.getModifiers()));
        }
    }

    private static void classesInside() {
        for (Class<?> inside : ForkHall.class.getDeclaredClasses()) {
            CHECK.isTrue(inside.getName() + " is static", Modifier.isStatic(inside.getModifiers()));
            CHECK.isTrue(inside.getName() + " is not public",
                    !Modifier.isPublic(inside.getModifiers()) && !Modifier.isProtected(inside.getModifiers()));
        }
    }
}
