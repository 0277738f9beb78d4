import java.io.IOException;
import java.util.regex.Pattern;

/** README.md's way to run the tests, in a small project that has two tests of its own and two shared ones. */
final class RunEdges {
    private static final String[] OWN = {"FirstTest", "LastTest"};
    private static final String[] SHARED = {"Another", "Runs"};
    private static final Room ROOM = new Room("tests");

    private RunEdges() {
    }

    static void run() throws IOException, InterruptedException {
        noneFails();
        for (String test : OWN) {
            oneFails(test);
        }
        for (String test : SHARED) {
            oneFails(test);
        }
        oneDoesNotCompile();
        theProjectDoesNotCompile();
    }

    private static void noneFails() throws IOException, InterruptedException {
        write("");
        allAreRun("none fails", 0, "4 passed, 0 failed");
    }

    private static void oneFails(String failing) throws IOException, InterruptedException {
        write(failing);
        allAreRun(failing + " fails", 1, "FAILED: " + failing, "3 passed, 1 failed");
    }

    private static void oneDoesNotCompile() throws IOException, InterruptedException {
        write("");
        ROOM.write("shared/tests/Broken.java", "no class");
        allAreRun("Broken does not compile", 1, "4 passed, 1 failed");
        ROOM.delete("shared/tests/Broken.java");
    }

    private static void theProjectDoesNotCompile() throws IOException, InterruptedException {
        write("");
        ROOM.write("project/src/test/java/Helper.java", "no class");
        Due.is("exit code if the project does not compile", 1, runTests());
    }

    private static void allAreRun(String when, int exitCode, String... lines) throws IOException, InterruptedException {
        Due.is("exit code if " + when, exitCode, runTests());
        for (String test : OWN) {
            Due.is(test + " is run if " + when, 1, timesPrinted("This is " + test));
        }
        for (String test : SHARED) {
            Due.is(test + " is run if " + when, 1, timesPrinted("This is " + test));
        }
        for (String line : lines) {
            Due.is(line + " is told if " + when, 1, timesPrinted(line));
        }
    }

    private static int runTests() throws IOException, InterruptedException {
        return ROOM.run("project", Readme.block("How to run the tests", "sh"));
    }

    private static int timesPrinted(String line) {
        return ("\n" + ROOM.printed()).split(Pattern.quote("\n" + line + "\n"), -1).length - 1;
    }

    /** The shared tests each bring a class of the same name, as they may. */
    private static void write(String failing) throws IOException {
        ROOM.copy(".ci/run", "project");
        ROOM.copy("src/main/java/FreePort.java", "project");
        ROOM.write("project/src/test/java/Helper.java", helper());
        for (String test : OWN) {
            ROOM.write("project/src/test/java/" + test + ".java", program(test, failing));
        }
        for (String test : SHARED) {
            ROOM.write("shared/tests/" + test + ".java", program(test, failing) + helper());
        }
    }

    private static String program(String test, String failing) {
        int exitCode = test.equals(failing) ? 1 : 0;
        return "public final class " + test + " {\npublic static void main(String[] args) {\nHelper.tell(\"" + test
            + "\", new FreePort());\nSystem.exit(" + exitCode + ");\n}\n}\n";
    }

    private static String helper() {
        return "final class Helper {\nstatic void tell(String name, FreePort port) {\n"
            + "System.out.println(\"This is \" + name);\n}\n}\n";
    }
}
