import java.util.function.Supplier;

/** Both sides of an argument's boundaries. */
final class Edge {
    private Edge() {
    }

    interface Call {
        void on(FreePort port, int number);
    }

    /** A number of one of so many: each of those is known; the ones around them, and those far out, are none. */
    static void numbered(Supplier<FreePort> made, String call, int count, Call doing) {
        for (int number = 0; number < count; number++) {
            int known = number;
            String thrown = Due.thrownBy(made.get(), x -> doing.on(x, known));
            boolean isRefused = thrown.equals("IllegalArgumentException") || thrown.equals("IllegalStateException");
            Due.is(call + " knows " + known, true, isRefused || thrown.equals("nothing"));
        }
        for (int none : new int[] {-1, count, Integer.MIN_VALUE, Integer.MAX_VALUE}) {
            Due.noSuch(made, call + " of " + none, x -> doing.on(x, none));
        }
    }

    /** The first and the last number are taken; the ones around them, and those far out, are out of range. */
    static void ranged(Supplier<FreePort> made, String call, int least, int most, Call doing) {
        for (int number : new int[] {least, most}) {
            Due.taken(made, call + " with " + number, x -> doing.on(x, number));
        }
        for (int out : new int[] {least - 1, most + 1, Integer.MIN_VALUE, Integer.MAX_VALUE}) {
            Due.outOfRange(made, call + " with " + out, x -> doing.on(x, out));
        }
    }

    /** One of the parties 0 to 3: those that may not be it are out of range, the others are taken. */
    static void another(Supplier<FreePort> made, String call, Call doing, int... not) {
        for (int party = 0; party < 4; party++) {
            int who = party;
            boolean isRefused = false;
            for (int refused : not) {
                isRefused |= refused == who;
            }
            if (isRefused) {
                Due.outOfRange(made, call + " " + who, x -> doing.on(x, who));
            } else {
                Due.taken(made, call + " " + who, x -> doing.on(x, who));
            }
        }
    }
}
