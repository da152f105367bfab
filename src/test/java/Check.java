import java.lang.reflect.InvocationTargetException;
import java.lang.reflect.Method;
import java.util.Arrays;
import java.util.Comparator;
import java.util.NoSuchElementException;

/** What the tests share: comparing answers, expecting exceptions, and putting texts into the buffer. */
final class Check {
    static final Class<IllegalStateException> STATE = IllegalStateException.class;
    static final Class<IllegalArgumentException> ARGUMENT = IllegalArgumentException.class;
    static final Class<IndexOutOfBoundsException> INDEX = IndexOutOfBoundsException.class;
    static final Class<ArithmeticException> ARITHMETIC = ArithmeticException.class;
    static final Class<NoSuchElementException> ELEMENT = NoSuchElementException.class;

    /** A call of the face; a boolean answer counts 1 or 0. */
    interface Call {
        long answer();
    }

    private static int wrong = 0;
    private static int checks = 0;

    private Check() {}

    static void equal(String what, long got, long due) {
        checks++;
        if (got != due) {
            complain(what + " answered " + got + ", due is " + due);
        }
    }

    static void equal(String what, String got, String due) {
        checks++;
        if (!got.equals(due)) {
            complain(what + " answered \"" + got + "\", due is \"" + due + "\"");
        }
    }

    static void yes(String what, boolean got) {
        equal(what, got ? 1 : 0, 1);
    }

    static void no(String what, boolean got) {
        equal(what, got ? 1 : 0, 0);
    }

    /** Expects exactly this exception, no subclass of it: the machine's own would be one. */
    static void fails(String what, Class<? extends RuntimeException> kind, Call call) {
        checks++;
        try {
            complain(what + " answered " + call.answer() + ", due is " + kind.getName());
        } catch (RuntimeException e) {
            if (e.getClass() != kind) {
                complain(what + " threw " + e + ", due is " + kind.getName());
            }
        }
    }

    /** Expects an exception and that the call leaves constraints, decisions, levels, values and costs. */
    static void failsLeaving(
            PseudoBoolean x, String what, Class<? extends RuntimeException> kind, Call call) {
        long before = x.digest();
        fails(what, kind, call);
        equal("digest() after " + what, x.digest(), before);
    }

    static void complain(String text) {
        wrong++;
        System.out.println(text);
    }

    /** Runs each method of a class whose name begins with promise, so that none is forgotten. */
    static void runPromises(Class<?> tests) {
        Method[] methods = tests.getDeclaredMethods();
        Arrays.sort(methods, Comparator.comparing(Method::getName));
        for (Method method : methods) {
            if (method.getName().startsWith("promise") && method.getParameterCount() == 0) {
                run(method);
            }
        }
        finish();
    }

    private static void run(Method method) {
        int wrongBefore = wrong;
        try {
            method.setAccessible(true);
            method.invoke(null);
        } catch (InvocationTargetException e) {
            complain("threw " + e.getCause());
        } catch (IllegalAccessException e) {
            complain("cannot be called: " + e);
        }
        if (wrong != wrongBefore) {
            System.out.println("    .. in " + method.getName());
        }
    }

    static void finish() {
        System.out.println(wrong + " of " + checks + " checks are wrong");
        if (wrong != 0) {
            System.exit(1);
        }
    }

    static int fourBytes(String text, int start) {
        int four = 0;
        for (int i = start; i < start + 4; i++) {
            four = four << 8 | (i < text.length() ? text.charAt(i) & 255 : ' ');
        }
        return four;
    }

    /** Makes this the text in the buffer. */
    static void put(PseudoBoolean x, String text) {
        x.trim(0);
        for (int i = 0; i < text.length(); i += 20) {
            x.feed(
                    fourBytes(text, i),
                    fourBytes(text, i + 4),
                    fourBytes(text, i + 8),
                    fourBytes(text, i + 12),
                    fourBytes(text, i + 16));
        }
        x.trim(text.length());
    }

    static int post(PseudoBoolean x, String text) {
        put(x, text);
        return x.post();
    }

    static boolean implied(PseudoBoolean x, String text) {
        put(x, text);
        return x.isImplied();
    }

    /** A new object with these constraints. */
    static PseudoBoolean with(String... texts) {
        PseudoBoolean x = new PseudoBoolean();
        for (String text : texts) {
            post(x, text);
        }
        return x;
    }

    static String written(PseudoBoolean x, int c) {
        int length = x.write(c);
        StringBuilder text = new StringBuilder();
        for (int i = 0; i < length; i++) {
            text.append((char) x.outputByte(i));
        }
        return text.toString();
    }

    /** Expects that this text is posted, and what the constraints then are. */
    static void posts(String text, String... due) {
        PseudoBoolean x = new PseudoBoolean();
        equal("post of \"" + text + "\"", post(x, text), 0);
        equal("constraints of \"" + text + "\"", x.constraintCount(), due.length);
        for (int c = 0; c < due.length && c < x.constraintCount(); c++) {
            equal("\"" + text + "\"", written(x, c), due[c]);
        }
        equal("errorPosition of \"" + text + "\"", x.errorPosition(), -1);
        hasEmptyBuffer("post", x);
    }

    /** Expects that this text is an error for post and for isImplied, and where. */
    static void refuses(String text, int position) {
        PseudoBoolean x = new PseudoBoolean();
        put(x, text);
        fails("post of \"" + text + "\"", ARGUMENT, x::post);
        equal("error of \"" + text + "\"", x.errorPosition(), position);
        hasEmptyBuffer("post of an error", x);
        put(x, text);
        fails("isImplied of \"" + text + "\"", ARGUMENT, () -> x.isImplied() ? 1 : 0);
        equal("error of \"" + text + "\" for isImplied", x.errorPosition(), position);
        hasEmptyBuffer("isImplied of an error", x);
        equal("constraints behind errors", x.constraintCount(), 0);
    }

    static void hasEmptyBuffer(String what, PseudoBoolean x) {
        fails("trim(1) behind " + what, ARGUMENT, () -> x.trim(1));
    }

    static String repeated(String part, int times) {
        return part.repeat(times);
    }
}
