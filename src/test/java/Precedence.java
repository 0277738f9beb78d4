import java.util.ArrayList;
import java.util.Arrays;
import java.util.List;
import java.util.function.Supplier;

/** A call with each of its arguments right or wrong, in all ways together, where it is possible and where it is not. */
final class Precedence {
    private static final int FIRST = Scenes.FIRST, SECOND = Scenes.SECOND, THIRD = Scenes.THIRD;
    private static final int TAKEN = 0, NO_SUCH = 1, OUT_OF_RANGE = 2, NOT_NOW = 3;
    private static final String[] THROWN = {
        "nothing", "IndexOutOfBoundsException", "IllegalArgumentException", "IllegalStateException",
    };
    /** A port's answers behind its 512th call are free. */
    private static final int MOST_CALLS = 400;

    interface Call {
        void on(FreePort port, int[] arguments);
    }

    private final String name;
    private final Call call;
    private final int[] arguments;
    private final List<List<int[]>> wrong = new ArrayList<>();
    private Supplier<FreePort> made;
    private FreePort port;
    private String before;
    private int calls;
    private boolean isPossible;

    private Precedence(String name, Call call, int... right) {
        this.name = name;
        this.call = call;
        arguments = right;
        for (int i = 0; i < right.length; i++) {
            wrong.add(new ArrayList<>());
        }
    }

    private Precedence numbered(int argument, int count) {
        for (int none : new int[] {-1, count, Integer.MIN_VALUE, Integer.MAX_VALUE}) {
            wrong.get(argument).add(new int[] {none, NO_SUCH});
        }
        return this;
    }

    private Precedence ranged(int argument, int least, int most) {
        for (int out : new int[] {least - 1, most + 1, Integer.MIN_VALUE, Integer.MAX_VALUE}) {
            wrong.get(argument).add(new int[] {out, OUT_OF_RANGE});
        }
        return this;
    }

    private Precedence not(int argument, int number) {
        wrong.get(argument).add(new int[] {number, OUT_OF_RANGE});
        return this;
    }

    @SafeVarargs
    private final void where(Supplier<FreePort> possible, Supplier<FreePort>... impossible) {
        begin(possible, true);
        each(0, TAKEN);
        for (Supplier<FreePort> not : impossible) {
            begin(not, false);
            each(0, TAKEN);
        }
    }

    private void begin(Supplier<FreePort> scene, boolean possible) {
        made = scene;
        isPossible = possible;
        renew();
    }

    private void renew() {
        port = made.get();
        before = Inside.of(port);
        calls = 0;
    }

    private void each(int argument, int worst) {
        if (argument == arguments.length) {
            check(worst == TAKEN && !isPossible ? NOT_NOW : worst);
            return;
        }
        int right = arguments[argument];
        each(argument + 1, worst);
        for (int[] bad : wrong.get(argument)) {
            arguments[argument] = bad[0];
            each(argument + 1, worst == TAKEN ? bad[1] : Math.min(worst, bad[1]));
        }
        arguments[argument] = right;
    }

    private void check(int due) {
        String told = name + Arrays.toString(arguments);
        Due.same(told + " throws", THROWN[due], Due.thrownBy(port, x -> call.on(x, arguments)));
        calls++;
        if (due != TAKEN) {
            Due.is(told + " changes nothing", true, before.equals(Inside.of(port)));
        }
        if (due == TAKEN || calls >= MOST_CALLS) {
            renew();
        }
    }

    static void run() {
        Doc.terms("IndexOutOfBoundsException: there is no such party, work, land, lot or loan.",
            "IllegalArgumentException: another argument is out of its range.",
            "IllegalStateException: as the method tells.",
            "If several apply, the one that is named first in the throws clause is thrown.",
            "A call that throws an exception changes nothing.");
        partiesAndWorks();
        ofAWork();
        sales();
        consignments();
        loans();
        asked();
    }

    private static FreePort tenParties() {
        FreePort port = Scenes.sold();
        for (int i = 4; i < 10; i++) {
            port.party(0, 0);
        }
        return port;
    }

    private static FreePort fiftyWords() {
        FreePort port = Scenes.sold();
        for (int i = 0; i < 50; i++) {
            port.word(i % 4, 0, i % 3 == 0);
        }
        return port;
    }

    private static void partiesAndWorks() {
        new Precedence("party", (x, a) -> x.party(a[0], a[1]), 5, 2)
            .ranged(0, 0, 1000000).numbered(1, 4).where(Scenes::sold, Precedence::tenParties);
        new Precedence("work", (x, a) -> x.work(a[0], a[1]), 3, 7)
            .numbered(0, 4).ranged(1, 0, 1000000).where(Scenes::sold, () -> Scenes.lots(60));
        new Precedence("pass", (x, a) -> x.pass(a[0]), 9)
            .ranged(0, 1, 1000).where(Scenes::sold, Scenes.passed(Scenes::sold, 19992));
        new Precedence("weight", (x, a) -> x.weight(a[0], a[1]), 3, 7)
            .numbered(0, 4).ranged(1, 0, 9).where(Scenes::sold);
        new Precedence("right", (x, a) -> x.right(a[0], a[1]), 3, 7)
            .numbered(0, 4).ranged(1, 0, 20).where(Scenes::sold);
        new Precedence("fail", (x, a) -> x.fail(a[0]), FIRST)
            .numbered(0, 4).where(Scenes::sold, Scenes.after(Scenes::sold, x -> x.fail(FIRST)));
    }

    private static void ofAWork() {
        Supplier<FreePort> abroad = Scenes.after(Scenes::sold, x -> x.bring(0, 2));
        Supplier<FreePort> sealed = Scenes.after(Scenes::sold, x -> x.seal(0, true));
        Supplier<FreePort> barred = Scenes.after(Scenes::sold, x -> x.bar(0, 3));
        new Precedence("value", (x, a) -> x.value(a[0], a[1]), 0, 7)
            .numbered(0, 1).ranged(1, 0, 1000000).where(Scenes::sold);
        new Precedence("word", (x, a) -> x.word(a[0], a[1], true), 3, 0)
            .numbered(0, 4).numbered(1, 1).where(Scenes::sold, Precedence::fiftyWords);
        new Precedence("paper", (x, a) -> x.paper(a[0], a[1], a[2]), 0, 1950, 1960)
            .numbered(0, 1).ranged(1, 1900, 2000).ranged(2, 1950, 2000).not(2, 1899).where(Scenes::sold);
        new Precedence("bar", (x, a) -> x.bar(a[0], a[1]), 0, 7)
            .numbered(0, 1).ranged(1, 0, 1000).where(Scenes::sold);
        new Precedence("seal", (x, a) -> x.seal(a[0], true), 0).numbered(0, 1).where(Scenes::sold, abroad);
        new Precedence("open", (x, a) -> x.seal(a[0], false), 0).numbered(0, 1).where(sealed);
        new Precedence("bring", (x, a) -> x.bring(a[0], a[1]), 0, 3)
            .numbered(0, 1).numbered(1, 4).where(Scenes::sold, sealed, barred);
        new Precedence("list", (x, a) -> x.list(a[0]), 0)
            .numbered(0, 1).where(Scenes::sold, Scenes.after(Scenes::sold, x -> x.list(0)));
    }

    private static void sales() {
        Supplier<FreePort> failed = Scenes.after(Scenes::sold, x -> x.fail(FIRST));
        new Precedence("sell", (x, a) -> x.sell(a[0], a[1], a[2], a[3]), 1, 7, SECOND, 9)
            .numbered(0, 2).ranged(1, 1, 60).numbered(2, 4).not(2, FIRST).ranged(3, 0, 1000000)
            .where(Scenes::sold, failed, Scenes::consigned, Scenes.after(Scenes::sold, x -> x.bar(0, 1)));
        new Precedence("tell", (x, a) -> x.tell(a[0], a[1], a[2]), 1, FIRST, THIRD)
            .numbered(0, 2).numbered(1, 4).numbered(2, 4)
            .where(Scenes::sold, Scenes.after(Scenes::fresh, x -> x.work(FIRST, 0)),
                Scenes.after(Scenes::fresh, x -> x.sell(0, 1, SECOND, 0)));
        new Precedence("restore", (x, a) -> x.restore(a[0], a[1]), 2, THIRD)
            .numbered(0, 3).numbered(1, 4).where(Scenes::looted, Scenes.after(Scenes::looted, x -> x.fail(THIRD)),
                Scenes::flipped, Scenes.after(Scenes::looted, x -> x.restore(2, FIRST)));
    }

    private static void consignments() {
        new Precedence("consign", (x, a) -> x.consign(a[0], a[1], a[2], a[3], a[4]), 1, SECOND, 500, 10, 5)
            .numbered(0, 2).numbered(1, 4).not(1, FIRST).ranged(2, 0, 1000000).ranged(3, 0, 50).ranged(4, 0, 1000)
            .where(Scenes::sold, Scenes::consigned);
        Supplier<FreePort> ended = Scenes.passed(Scenes::consigned, 6);
        new Precedence("back", (x, a) -> x.back(a[0]), 1)
            .numbered(0, 2).where(ended, Scenes::sold, Scenes.passed(Scenes::consigned, 5));
        new Precedence("deal", (x, a) -> x.deal(a[0], a[1], a[2]), 1, THIRD, 500)
            .numbered(0, 2).numbered(1, 4).not(1, FIRST).ranged(2, 0, 1000000)
            .where(Scenes::consigned, Scenes::sold, ended, Scenes.after(Scenes::consigned, x -> x.fail(FIRST)));
    }

    private static void loans() {
        Supplier<FreePort> late = Scenes.passed(Scenes::lent, 11);
        Supplier<FreePort> gone = Scenes.after(Scenes::lent, x -> x.repay(0));
        new Precedence("lend", (x, a) -> x.lend(a[0], a[1], a[2], a[3], a[4]), 1, SECOND, 200, 10, 5)
            .numbered(0, 2).numbered(1, 4).not(1, FIRST).ranged(2, 1, 1000000).ranged(3, 0, 100).ranged(4, 1, 1000)
            .where(Scenes::sold, Scenes::lent);
        new Precedence("repay", (x, a) -> x.repay(a[0]), 0).numbered(0, 1).where(Scenes::lent, gone);
        new Precedence("seize", (x, a) -> x.seize(a[0]), 0).numbered(0, 1).where(late, Scenes::lent, gone);
        new Precedence("assign", (x, a) -> x.assign(a[0], a[1], a[2]), 0, THIRD, 7)
            .numbered(0, 1).numbered(1, 4).not(1, FIRST).not(1, SECOND).ranged(2, 0, 1000000)
            .where(Scenes::lent, gone, Scenes.after(Scenes::lent, x -> x.fail(THIRD)));
    }

    private static void asked() {
        new Precedence("bars", (x, a) -> x.bars(a[0], a[1], a[2], a[3]), 1, 7, SECOND, 9)
            .numbered(0, 2).ranged(1, 1, 60).numbered(2, 4).not(2, FIRST).ranged(3, 0, 1000000).where(Scenes::sold);
        new Precedence("barredBy", (x, a) -> x.barredBy(a[0], a[1], a[2], a[3]), 1, 7, SECOND, 9)
            .numbered(0, 2).ranged(1, 1, 60).numbered(2, 4).not(2, FIRST).ranged(3, 0, 1000000).where(Scenes::sold);
        new Precedence("price", (x, a) -> x.price(a[0], a[1]), 1, FIRST)
            .numbered(0, 2).numbered(1, 4).where(Scenes::sold);
        new Precedence("ofParty", (x, a) -> x.ofParty(a[0], a[1]), 3, 6)
            .numbered(0, 4).ranged(1, 0, 6).where(Scenes::lent);
        new Precedence("ofWork", (x, a) -> x.ofWork(a[0], a[1]), 0, 5)
            .numbered(0, 1).ranged(1, 0, 5).where(Scenes::lent);
        new Precedence("ofLot", (x, a) -> x.ofLot(a[0], a[1]), 1, 8)
            .numbered(0, 2).ranged(1, 0, 8).where(Scenes::lent);
        new Precedence("ofLoan", (x, a) -> x.ofLoan(a[0], a[1]), 0, 5)
            .numbered(0, 1).ranged(1, 0, 5).where(Scenes::lent);
        new Precedence("doubt", (x, a) -> x.doubt(a[0], a[1]), 0, 3)
            .numbered(0, 1).ranged(1, 0, 7).where(Scenes.passed(Scenes::sold, 7));
        new Precedence("gaps", (x, a) -> x.gaps(a[0], a[1], a[2]), 0, 1950, 1960)
            .numbered(0, 1).ranged(1, 1900, 2000).ranged(2, 1950, 2000).not(2, 1899).where(Scenes::sold);
    }
}
