import java.io.IOException;
import java.lang.reflect.Executable;
import java.lang.reflect.Field;
import java.lang.reflect.Modifier;
import java.nio.charset.StandardCharsets;
import java.nio.file.Files;
import java.nio.file.Path;
import java.util.ArrayList;
import java.util.Arrays;
import java.util.HashSet;
import java.util.List;
import java.util.Set;
import java.util.regex.Matcher;
import java.util.regex.Pattern;

/** The rules of LANGUAGE.md that can be read from the program's text, or from its classes. */
final class LanguageTest {
    private static final Path PROGRAM = Path.of("src/main/java/FreePort.java");
    private static final String[] NOT_IN_IT = {
        "import", "package", "try", "catch", "finally", "assert", "synchronized", "protected", "instanceof",
        "native", "strictfp", "volatile", "transient", "var", "double", "float",
    };
    private static final Set<String> NAMES = new HashSet<>(Arrays.asList(
        "FreePort", "Party", "Word", "Work", "Lot", "Sale", "Consignment", "Loan", "Integer", "Math",
        "IndexOutOfBoundsException", "IllegalArgumentException", "IllegalStateException"));
    private static final Set<String> LIBRARY = new HashSet<>(Arrays.asList("Integer.bitCount", "Math.max"));

    public static void main(String[] args) throws IOException {
        String text = Files.readString(PROGRAM, StandardCharsets.UTF_8);
        Due.is("signs are 1 to 127", true, text.chars().allMatch(sign -> sign > 0 && sign < 128));
        String code = text.replaceAll("(?s)/\\*.*?\\*/", " ").replaceAll("//[^\n]*", " ")
            .replaceAll("\"[^\"\n]*\"", "\"\"");
        onlyWhatTheRulesLeave(code);
        onlyTheLibraryThatTheRulesLeave(code);
        noMethodIsLong(code);
        for (Class<?> own : ownClasses()) {
            theClassIsSmall(own);
        }
        Due.end("LanguageTest");
    }

    private static void onlyWhatTheRulesLeave(String code) {
        for (String word : NOT_IN_IT) {
            Due.is(word, false, Pattern.compile("\\b" + word + "\\b").matcher(code).find());
        }
        Due.is("a lambda", false, code.contains("->"));
        Due.is("a method reference", false, code.contains("::"));
        Due.is("an annotation", false, code.contains("@"));
        Due.is("a throw without new", false, Pattern.compile("\\bthrow (?!new )").matcher(code).find());
    }

    private static void onlyTheLibraryThatTheRulesLeave(String code) {
        Matcher names = Pattern.compile("\\b[A-Z][a-z]\\w*").matcher(code);
        while (names.find()) {
            Due.is("the name " + names.group(), true, NAMES.contains(names.group()));
        }
        Matcher calls = Pattern.compile("\\b(Integer|Math)\\.\\w+").matcher(code);
        while (calls.find()) {
            Due.is("the call " + calls.group(), true, LIBRARY.contains(calls.group()));
        }
    }

    private static void noMethodIsLong(String code) {
        String[] lines = code.split("\n");
        int start = 0;
        for (int i = 0; i < lines.length; i++) {
            if (lines[i].trim().isEmpty()) {
                start = i;
            }
            Due.is("long without an empty line, at " + i, false, i - start > 60);
        }
    }

    private static List<Class<?>> ownClasses() {
        List<Class<?>> all = new ArrayList<>(Arrays.asList(FreePort.class.getDeclaredClasses()));
        all.add(FreePort.class);
        return all;
    }

    private static void theClassIsSmall(Class<?> own) {
        int fields = 0;
        for (Field field : own.getDeclaredFields()) {
            boolean isStatic = Modifier.isStatic(field.getModifiers());
            fields += isStatic ? 0 : 1;
            Due.is(field + " is static and not a constant", false,
                isStatic && !(Modifier.isFinal(field.getModifiers()) && field.getType() == int.class));
        }
        Due.is(own.getName() + " has many fields", false, fields > 20);
        List<Executable> all = new ArrayList<>(Arrays.asList(own.getDeclaredMethods()));
        all.addAll(Arrays.asList(own.getDeclaredConstructors()));
        for (Executable method : all) {
            Due.is(method + " takes many", false, method.getParameterCount() > 7);
        }
    }
}
