import java.lang.reflect.Constructor;
import java.lang.reflect.Field;
import java.lang.reflect.Method;
import java.lang.reflect.Modifier;
import java.util.HashSet;
import java.util.Set;
import java.util.TreeSet;

/** The public face is the document's, member for member, and nothing else is visible outside. */
final class FaceTest {
    private static final String[] FACE = {
        "int feed(int,int,int,int,int) IllegalStateException",
        "int trim(int) IllegalArgumentException",
        "int post() IllegalArgumentException IllegalStateException",
        "boolean isImplied() IllegalArgumentException",
        "int errorPosition()",
        "int write(int) IndexOutOfBoundsException",
        "int outputByte(int) IndexOutOfBoundsException",
        "int constraintCount()",
        "int termCount(int) IndexOutOfBoundsException",
        "int degree(int) IndexOutOfBoundsException",
        "int coefficient(int,int) IndexOutOfBoundsException",
        "long slack(int) IndexOutOfBoundsException",
        "int cardinality(int) IndexOutOfBoundsException",
        "int sum(int,int) IndexOutOfBoundsException IllegalStateException ArithmeticException",
        "int multiple(int,int) IndexOutOfBoundsException IllegalArgumentException"
                + " IllegalStateException ArithmeticException",
        "int quotient(int,int) IndexOutOfBoundsException IllegalArgumentException"
                + " IllegalStateException",
        "int saturation(int) IndexOutOfBoundsException IllegalStateException",
        "int weakening(int,int) IndexOutOfBoundsException IllegalArgumentException"
                + " IllegalStateException",
        "int resolvent(int,int,int) IndexOutOfBoundsException IllegalArgumentException"
                + " IllegalStateException ArithmeticException",
        "int cardinalityConstraint(int) IndexOutOfBoundsException IllegalStateException",
        "boolean exclude(int,int) IndexOutOfBoundsException",
        "int group(int) IndexOutOfBoundsException",
        "int groupLiteral(int) IndexOutOfBoundsException",
        "int addGroup() NoSuchElementException IllegalStateException",
        "int decide(int) IndexOutOfBoundsException IllegalStateException",
        "int undo() IllegalStateException",
        "int decisionCount()",
        "boolean isConflicting()",
        "int value(int) IndexOutOfBoundsException",
        "int firstModel()",
        "int nextModel(int) IllegalArgumentException",
        "int modelCount()",
        "boolean isForced(int) IndexOutOfBoundsException",
        "int setCost(int,int) IndexOutOfBoundsException IllegalArgumentException",
        "int leastCost() NoSuchElementException",
        "int cheapestModel() NoSuchElementException",
        "int explain(int,int) IllegalArgumentException NoSuchElementException",
        "int reasonLiteral(int) IndexOutOfBoundsException",
        "int push() IllegalStateException",
        "int pop() IllegalStateException",
        "long digest()"
    };

    public static void main(String[] args) {
        Check.yes("the class is public and final", isPublicAndFinal());
        checkConstructors();
        checkMethods();
        checkFieldsAndClasses();
        Check.finish();
    }

    private static boolean isPublicAndFinal() {
        int modifiers = PseudoBoolean.class.getModifiers();
        return Modifier.isPublic(modifiers) && Modifier.isFinal(modifiers);
    }

    private static void checkConstructors() {
        Constructor<?>[] all = PseudoBoolean.class.getDeclaredConstructors();
        Check.equal("the number of constructors", all.length, 1);
        Check.yes("the constructor is public", Modifier.isPublic(all[0].getModifiers()));
        Check.equal("the constructor's parameters", all[0].getParameterCount(), 0);
    }

    private static void checkMethods() {
        Set<String> visible = new TreeSet<>();
        Set<String> names = new HashSet<>();
        for (Method method : PseudoBoolean.class.getDeclaredMethods()) {
            if (!Modifier.isPrivate(method.getModifiers()) && !method.isSynthetic()) {
                visible.add(signature(method));
                names.add(method.getName());
                Check.yes(method + " is public", Modifier.isPublic(method.getModifiers()));
            }
        }
        Check.equal("the face", visible.toString(), new TreeSet<>(Set.of(FACE)).toString());
        for (Method method : PseudoBoolean.class.getDeclaredMethods()) {
            if (Modifier.isPrivate(method.getModifiers())) {
                Check.no(method + " has a public name", names.contains(method.getName()));
            }
        }
    }

    private static String signature(Method method) {
        StringBuilder text = new StringBuilder(method.getReturnType() + " " + method.getName() + "(");
        for (int i = 0; i < method.getParameterCount(); i++) {
            text.append(i > 0 ? "," : "").append(method.getParameterTypes()[i]);
        }
        text.append(")");
        for (Class<?> kind : method.getExceptionTypes()) {
            text.append(" ").append(kind.getSimpleName());
        }
        return text.toString();
    }

    private static void checkFieldsAndClasses() {
        for (Field field : PseudoBoolean.class.getDeclaredFields()) {
            Check.yes(field + " is private", Modifier.isPrivate(field.getModifiers()));
        }
        Class<?>[] inside = PseudoBoolean.class.getDeclaredClasses();
        for (Class<?> one : inside) {
            Check.yes(one + " is private", Modifier.isPrivate(one.getModifiers()));
            Check.yes(one + " is static", Modifier.isStatic(one.getModifiers()));
        }
        Check.yes("there are at most twelve classes", inside.length + 1 <= 12);
    }
}
