import java.util.function.Consumer;
import java.util.function.Supplier;

/** Ports from which the tests of the document's edges start, each made anew. */
final class Scenes {
    static final int ARTIST = 0, FIRST = 1, SECOND = 2, THIRD = 3;

    private Scenes() {
    }

    /** The parties 0 to 3, of the lands 0 to 3, with so much money each. */
    static FreePort four(int money) {
        FreePort port = new FreePort();
        for (int land = 0; land < 4; land++) {
            port.party(money, land);
        }
        return port;
    }

    /** Four with 10000 each; the ARTIST holds the lot 0, all of a work of 600. */
    static FreePort fresh() {
        FreePort port = four(10000);
        port.work(ARTIST, 600);
        return port;
    }

    /** On day 0 FIRST bought 40 parts for 1000: lot 1, worth 400. Lot 0 has 20 left. */
    static FreePort sold() {
        FreePort port = fresh();
        port.sell(0, 40, FIRST, 1000);
        return port;
    }

    /** Four with all the money that there may be; FIRST holds the lot 1, all of a work of 1000000. */
    static FreePort rich() {
        FreePort port = four(1000000);
        port.work(ARTIST, 1000000);
        port.sell(0, 60, FIRST, 0);
        return port;
    }

    /** Lot 1 of sold() is consigned to SECOND for at least 500, for 25 percent, until day 5. */
    static FreePort consigned() {
        FreePort port = sold();
        port.consign(1, SECOND, 500, 25, 5);
        return port;
    }

    /** On lot 1 of sold() SECOND lends FIRST 200 on day 0, at 50 percent, for 10 days. */
    static FreePort lent() {
        FreePort port = sold();
        port.lend(1, SECOND, 200, 50, 10);
        return port;
    }

    /** Sold on day 0 (lot 1), listed on day 1, and then sold on to SECOND, 10 parts for 50 (lot 2). */
    static FreePort looted() {
        FreePort port = sold();
        port.pass(1);
        port.list(0);
        port.sell(1, 10, SECOND, 50);
        return port;
    }

    /** Four with 10000 each, and so many lots: 1 part each sold off lot 0 to FIRST, for nothing. */
    static FreePort lots(int count) {
        FreePort port = fresh();
        for (int i = 1; i < count; i++) {
            port.sell(0, 1, FIRST, 0);
        }
        return port;
    }

    /** As sold(), and FIRST has sold a part of it on at once (lot 2): the ARTIST punishes FIRST. */
    static FreePort flipped() {
        FreePort port = sold();
        port.sell(1, 1, SECOND, 0);
        return port;
    }

    static FreePort after(FreePort port, Consumer<FreePort> step) {
        step.accept(port);
        return port;
    }

    static Supplier<FreePort> after(Supplier<FreePort> made, Consumer<FreePort> step) {
        return () -> after(made.get(), step);
    }

    static Supplier<FreePort> passed(Supplier<FreePort> made, int days) {
        return after(made, port -> pass(port, days));
    }

    /** More days than one call lets pass. */
    static void pass(FreePort port, int days) {
        int left = days;
        while (left > 0) {
            port.pass(Math.min(left, 1000));
            left -= Math.min(left, 1000);
        }
    }
}
