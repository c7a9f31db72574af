import java.lang.reflect.Executable;
import java.lang.reflect.Field;
import java.lang.reflect.Method;
import java.lang.reflect.Modifier;
import java.nio.file.Files;
import java.nio.file.Path;
import java.util.ArrayList;
import java.util.Arrays;
import java.util.List;
import java.util.Set;
import java.util.regex.Matcher;
import java.util.regex.Pattern;

/** The rules of LANGUAGE.md that can be seen in the source's words or in its classes (FaceTest holds rule 1). */
public final class LanguageTest {
    private static final Path SOURCE = Path.of("src/main/java/SecondPlace.java");
    private static final Set<String> LIBRARY = Set.of("Arrays.fill", "Arrays.copyOf", "Arrays.copyOfRange", "System.arraycopy",
        "Math.min", "Math.max", "Math.abs", "Math.floorDiv", "Math.floorMod", "Integer.bitCount", "Integer.compare");
    private static final Set<String> IMPORTS = Set.of("java.util.Arrays", "java.util.ArrayList", "java.util.List",
        "java.util.NoSuchElementException", "java.util.Iterator");
    private static final Set<String> THROWN = Set.of("IllegalStateException", "IllegalArgumentException",
        "IndexOutOfBoundsException", "ArithmeticException", "UnsupportedOperationException", "NoSuchElementException",
        "RuntimeException");

    private LanguageTest() {
    }

    public static void main(String[] args) throws Exception {
        String source = Files.readString(SOURCE);
        String code = withoutComments(source);
        signs(source);
        imports(code);
        forbiddenWords(code);
        libraryCalls(code);
        thrown(code);
        lengths(source);
        classes();
        Kit.finish();
    }

    /** Texts become empty ones, so that their words count for nothing. */
    private static String withoutComments(String source) {
        return source.replaceAll("(?s)/\\*.*?\\*/", " ").replaceAll("//[^\n]*", " ").replaceAll("\"[^\"\n]*\"", "\"\"");
    }

    private static void signs(String source) {
        Kit.same("rule 4: signs are 1 to 127", true, source.chars().allMatch(c -> c > 0 && c < 128));
    }

    private static void imports(String code) {
        Kit.same("no package line", false, Pattern.compile("\\bpackage\\b").matcher(code).find());
        Matcher m = Pattern.compile("\\bimport\\s+([^;]+);").matcher(code);
        while (m.find()) {
            Kit.same("rule 4: import " + m.group(1), true, IMPORTS.contains(m.group(1)));
        }
    }

    private static void forbiddenWords(String code) {
        String[] words = {"try", "catch", "finally", "synchronized", "assert", "protected", "lambda", "Object", "hashCode",
            "getClass", "double", "float", "Thread", "Random", "instanceof", "native", "volatile", "transient"};
        for (String word : words) {
            Kit.same("rules 3, 6 and 13: " + word, false, Pattern.compile("\\b" + word + "\\b").matcher(code).find());
        }
        Kit.same("rule 2: no lambda", false, code.contains("->"));
        Kit.same("rule 2: no method reference", false, code.contains("::"));
        Kit.same("rule 4: nothing Exact", false, code.contains("Exact("));
        Kit.same("rule 5: no static block", false, Pattern.compile("\\bstatic\\s*\\{").matcher(code).find());
        Kit.same("rule 10: no text joined by +", false, Pattern.compile("\"\"\\s*\\+|\\+\\s*\"\"").matcher(code).find());
        Kit.same("rule 7: a divisor is a constant", false, Pattern.compile("[/%]=?+\\s*+(?![A-Z1-9])").matcher(code).find());
    }

    private static void libraryCalls(String code) {
        Matcher m = Pattern.compile("\\b(Arrays|System|Math|Integer|Long|String|List|Character)\\.(\\w+)").matcher(code);
        while (m.find()) {
            Kit.same("rule 4: " + m.group(), true, LIBRARY.contains(m.group()));
        }
    }

    private static void thrown(String code) {
        Matcher m = Pattern.compile("\\bthrow\\b\\s*(new\\s+(\\w+)\\(\"?\"?\\);)?").matcher(code);
        while (m.find()) {
            boolean written = m.group(2) != null && THROWN.contains(m.group(2));
            Kit.same("rule 6: " + m.group(), true, written);
        }
    }

    /** A method begins at a line that ends with a brace and has no word of a statement, and ends at the same depth. */
    private static void lengths(String source) {
        List<String> lines = Arrays.asList(source.split("\n"));
        Pattern begin = Pattern.compile("( {4}| {8})(?!if|for|while|switch|do|else|return|\\})\\S.*\\)( throws .*)? \\{");
        int methods = 0;
        for (int i = 0; i < lines.size(); i++) {
            Matcher m = begin.matcher(lines.get(i));
            if (!m.matches()) {
                continue;
            }
            methods++;
            int end = i;
            while (!lines.get(end).equals(m.group(1) + "}")) {
                end++;
            }
            Kit.same("rule 11: some sixty lines: " + lines.get(i).trim(), true, end - i < 60);
        }
        Kit.same("methods were found", true, methods > 100);
    }

    private static void classes() {
        List<Class<?>> all = new ArrayList<>(List.of(SecondPlace.class.getDeclaredClasses()));
        all.add(SecondPlace.class);
        Kit.same("rule 11: some twelve classes", true, all.size() <= 12);
        for (Class<?> c : all) {
            fields(c);
            for (Method m : c.getDeclaredMethods()) {
                parameters(m);
            }
            for (Executable e : c.getDeclaredConstructors()) {
                parameters(e);
            }
        }
    }

    private static void parameters(Executable e) {
        Kit.same("rule 11: seven parameters: " + e, true, e.getParameterCount() <= 7);
    }

    private static void fields(Class<?> c) {
        int own = 0;
        for (Field f : c.getDeclaredFields()) {
            if (Modifier.isStatic(f.getModifiers())) {
                Kit.same("rule 5: final: " + f, true, Modifier.isFinal(f.getModifiers()));
                Class<?> type = f.getType();
                Kit.same("rule 5: a constant or a row: " + f, true, type.isPrimitive() || type == String.class || type == int[].class);
            } else {
                own++;
            }
        }
        Kit.same("rule 11: some twenty fields: " + c.getName(), true, own <= 20);
    }
}
