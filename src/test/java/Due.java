import java.util.function.Consumer;
import java.util.function.Supplier;

/** Counts the answers that are not due, prints them, and ends a test with exit code 1 if there was one. */
final class Due {
    private static int asked = 0;
    private static int wrong = 0;
    private static String about = "";

    private Due() {
    }

    static int asked() {
        return asked;
    }

    /** What the answers that follow are due by; it is told with the first one that is wrong. */
    static void about(String sentence) {
        about = sentence;
    }

    static void is(String call, long want, long got) {
        asked++;
        if (want != got) {
            tellWrong(call + " answered " + got + ", due is " + want);
        }
    }

    static void is(String call, boolean want, boolean got) {
        is(call, want ? 1 : 0, got ? 1 : 0);
    }

    static void same(String what, String want, String got) {
        asked++;
        if (!want.equals(got)) {
            tellWrong(what + "\n  is  " + got + "\n  due " + want);
        }
    }

    /** The call throws IndexOutOfBoundsException itself, not one of the machine's below it, and changes nothing. */
    static void noSuch(Supplier<FreePort> made, String call, Consumer<FreePort> doing) {
        refuses(IndexOutOfBoundsException.class, made, call, doing);
    }

    /** The call throws IllegalArgumentException and changes nothing. */
    static void outOfRange(Supplier<FreePort> made, String call, Consumer<FreePort> doing) {
        refuses(IllegalArgumentException.class, made, call, doing);
    }

    /** The call throws IllegalStateException and changes nothing. */
    static void notNow(Supplier<FreePort> made, String call, Consumer<FreePort> doing) {
        refuses(IllegalStateException.class, made, call, doing);
    }

    /** The call throws nothing. */
    static void taken(Supplier<FreePort> made, String call, Consumer<FreePort> doing) {
        same(call + " throws", "nothing", thrownBy(made.get(), doing));
    }

    private static void refuses(Class<?> kind, Supplier<FreePort> made, String call, Consumer<FreePort> doing) {
        FreePort port = made.get();
        String before = Inside.of(port);
        same(call + " throws", kind.getSimpleName(), thrownBy(port, doing));
        same(call + " leaves inside", before, Inside.of(port));
        same(call + " leaves behind", Look.at(made.get()), Look.at(port));
    }

    static String thrownBy(FreePort port, Consumer<FreePort> doing) {
        try {
            doing.accept(port);
            return "nothing";
        } catch (RuntimeException e) {
            return e.getClass().getSimpleName();
        }
    }

    private static void tellWrong(String line) {
        wrong++;
        if (wrong <= 20) {
            System.out.println(about.isEmpty() ? line : "By " + about + ":\n  " + line);
            about = "";
        }
    }

    static void end(String test) {
        System.out.println(test + ": " + asked + " answers, " + wrong + " wrong");
        if (wrong > 0 || asked == 0) {
            System.exit(1);
        }
    }
}
