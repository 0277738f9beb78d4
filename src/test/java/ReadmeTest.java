import java.io.File;
import java.io.IOException;
import java.lang.reflect.Method;
import java.lang.reflect.Modifier;
import java.nio.charset.StandardCharsets;
import java.nio.file.Files;
import java.nio.file.Path;
import java.util.regex.Matcher;
import java.util.regex.Pattern;

/** What README.md says holds: its programs answer as they say, and its way to run the tests runs them all. */
final class ReadmeTest {
    private static final File TESTS = new File("src/test/java");
    /** A variable or none, a call, and its answer or none. */
    private static final Pattern LINE = Pattern.compile("(?:int (\\w+) = )?(port\\..+);(?: +// ([^:]*).*)?");

    public static void main(String[] args) throws IOException, InterruptedException {
        theProgramPrintsWhatThePageSays();
        theCallsAnswerAsThePageSays();
        everyMethodIsShown();
        theNumbersAreThoseOfTheDocument();
        theTestsAreThoseOfThePage();
        RunEdges.run();
        Due.end("ReadmeTest");
    }

    private static void theProgramPrintsWhatThePageSays() throws IOException, InterruptedException {
        Room room = new Room("use");
        room.copy("src/main/java/FreePort.java", "");
        room.write("Use.java", Readme.block("How to use it", "java"));
        Due.is("exit code of Use", 0, room.run("", Readme.block("How to use it", "sh")));
        Due.same("what Use prints", Readme.block("How to use it", "text"), room.printed());
    }

    private static void theCallsAnswerAsThePageSays() throws IOException, InterruptedException {
        StringBuilder calls = new StringBuilder();
        int answers = 0;
        for (String block : Readme.blocks("The calls", "java")) {
            for (String line : block.split("\n")) {
                String looked = looked(line);
                answers += looked.contains("Due.same(") ? 1 : 0;
                calls.append(looked);
            }
        }
        Room room = new Room("calls");
        room.write("Calls.java", "final class Calls {\npublic static void main(String[] args) {\n" + calls
            + "Due.end(\"Calls\");\n}\n}\n");
        Due.is("exit code of the calls", 0, room.run("", "javac -cp \"$0\" -d . Calls.java; java -cp \"$0:.\" Calls"));
        Due.same("the calls", "Calls: " + answers + " answers, 0 wrong\n", room.printed());
    }

    /** A line of the page, with a look at its answer. */
    private static String looked(String line) {
        Matcher parts = LINE.matcher(line);
        if (!parts.matches()) {
            Due.same("neither a call nor the port", "FreePort port = new FreePort();", line);
            return line + "\n";
        }
        String variable = parts.group(1);
        String call = parts.group(2);
        String answer = parts.group(3);
        String due = "Due.same(\"" + call + "\", \"" + answer + "\", ";
        if (answer != null && answer.startsWith("throws ")) {
            return due + "\"throws \" + Due.thrownBy(port, made -> " + call + "));\n";
        }
        if (variable != null) {
            return "int " + variable + " = " + call + ";\n" + due + "\"\" + " + variable + ");\n";
        }
        boolean isVoid = call.matches("port\\.(paper|consign|list)\\(.*");
        return isVoid ? call + ";\n" : due + "\"\" + " + call + ");\n";
    }

    private static void everyMethodIsShown() {
        String shown = String.join("", Readme.blocks("The calls", "java"));
        for (Method method : FreePort.class.getDeclaredMethods()) {
            if (Modifier.isPublic(method.getModifiers())) {
                Due.is(method.getName() + " is shown", true, shown.contains("port." + method.getName() + "("));
            }
        }
    }

    private static void theNumbersAreThoseOfTheDocument() throws IOException {
        String document = Files.readString(Path.of("../shared/DOC.md"), StandardCharsets.UTF_8).replaceAll("\\s+", " ");
        String page = Readme.section("What the numbers mean").replaceAll("\n  +", " ");
        Matcher quotes = Pattern.compile("- `(\\w+)`: (.*)").matcher(page);
        StringBuilder named = new StringBuilder();
        while (quotes.find()) {
            named.append(quotes.group(1)).append(' ');
            Due.is("in the document: " + quotes.group(2), true, document.contains(quotes.group(2)));
        }
        Due.same("told by numbers", "ofParty ofWork ofLot ofLoan bars barredBy ", named.toString());
    }

    private static void theTestsAreThoseOfThePage() throws IOException {
        String page = Readme.section("How to run the tests");
        for (File file : TESTS.listFiles()) {
            String name = file.getName().replace(".java", "");
            String text = Files.readString(file.toPath(), StandardCharsets.UTF_8);
            Due.is(name + " is named", true, page.contains("`" + name + "`"));
            Due.is(name + " is run", text.contains("    public static void main("), name.endsWith("Test"));
        }
        Matcher named = Pattern.compile("`([A-Z]\\w*)`").matcher(page);
        while (named.find()) {
            Due.is("there is " + named.group(1), true, new File(TESTS, named.group(1) + ".java").exists());
        }
    }
}
