import java.io.IOException;
import java.lang.reflect.Field;
import java.lang.reflect.Method;
import java.lang.reflect.Modifier;
import java.nio.file.Files;
import java.nio.file.Path;
import java.util.ArrayList;
import java.util.List;
import java.util.Set;
import java.util.regex.Matcher;
import java.util.regex.Pattern;

/** The rules of LANGUAGE.md that can be told from the text of the class, or by reflection. */
final class LanguageTest {
    private static final Path SOURCE = Path.of("src/main/java/PseudoBoolean.java");

    private static final Pattern COMMENT = Pattern.compile("(?s)/\\*.*?\\*/|//[^\\n]*");
    private static final Pattern TEXT = Pattern.compile("\"[^\"\\n]*\"");
    private static final Pattern IMPORT = Pattern.compile("(?m)^import (.*);$");
    private static final Pattern LIBRARY_MEMBER =
            Pattern.compile("\\b(Integer|Long|Math|System|Arrays|List|String)\\.(\\w+\\(?)");
    private static final Pattern NUMBER_FUNCTION =
            Pattern.compile("(Integer|Long|Math)\\.(?!\\w*Exact\\()[a-z]\\w*\\(");
    private static final Set<String> OTHER_FUNCTIONS = Set.of(
            "System.arraycopy(", "Arrays.fill(", "Arrays.copyOf(", "Arrays.copyOfRange(", "List.of(");
    private static final Set<String> IMPORTS = Set.of(
            "java.util.ArrayList", "java.util.Arrays", "java.util.Iterator", "java.util.List",
            "java.util.NoSuchElementException");
    private static final Pattern OUTSIDE = Pattern.compile(
            "->|::|\\b(finally|synchronized|assert|protected|package|var|hashCode)\\b");
    private static final Pattern THROW = Pattern.compile("\\bthrow\\b");
    private static final Pattern WRITTEN_THROW = Pattern.compile(
            "\\bthrow new (IllegalState|IllegalArgument|IndexOutOfBounds|Arithmetic"
                    + "|UnsupportedOperation|NoSuchElement|Runtime)Exception\\((\"[^\"\\n]*\")?\\);");

    public static void main(String[] args) throws IOException {
        String source = Files.readString(SOURCE);
        String code = COMMENT.matcher(source).replaceAll("");
        rule4Library(TEXT.matcher(code).replaceAll("\"\""));
        rule6Exceptions(code);
        rules2And10(TEXT.matcher(code).replaceAll("\"\""));
        for (Class<?> one : classes()) {
            rule5StaticFields(one);
            rule11Sizes(one);
        }
        Check.equal("rule 3: signs above 127", source.chars().filter(c -> c > 127).count(), 0);
        Check.finish();
    }

    private static List<Class<?>> classes() {
        List<Class<?>> all = new ArrayList<>(List.of(PseudoBoolean.class.getDeclaredClasses()));
        all.add(PseudoBoolean.class);
        return all;
    }

    private static void rule4Library(String code) {
        for (String name : found(IMPORT, code, 1)) {
            Check.yes("rule 4: import " + name, IMPORTS.contains(name));
        }
        for (String member : found(LIBRARY_MEMBER, code, 0)) {
            boolean listed = NUMBER_FUNCTION.matcher(member).matches() || OTHER_FUNCTIONS.contains(member);
            Check.yes("rule 4: " + member, listed);
        }
    }

    private static void rule6Exceptions(String code) {
        int all = found(THROW, code, 0).size();
        Check.equal("rule 6: throws with a written text", found(WRITTEN_THROW, code, 0).size(), all);
    }

    private static void rules2And10(String code) {
        Check.equal("rules 2, 6 and 10", found(OUTSIDE, code, 0).toString(), "[]");
    }

    private static void rule5StaticFields(Class<?> one) {
        for (Field field : one.getDeclaredFields()) {
            int modifiers = field.getModifiers();
            Check.yes("rule 5: " + field, !Modifier.isStatic(modifiers) || Modifier.isFinal(modifiers));
        }
    }

    private static void rule11Sizes(Class<?> one) {
        int fields = 0;
        for (Field field : one.getDeclaredFields()) {
            fields += Modifier.isStatic(field.getModifiers()) ? 0 : 1;
        }
        Check.yes("rule 11: fields of " + one, fields <= 20);
        for (Method method : one.getDeclaredMethods()) {
            Check.yes("rule 11: parameters of " + method, method.getParameterCount() <= 7);
        }
    }

    private static List<String> found(Pattern pattern, String text, int group) {
        List<String> all = new ArrayList<>();
        Matcher matcher = pattern.matcher(text);
        while (matcher.find()) {
            all.add(matcher.group(group));
        }
        return all;
    }
}
