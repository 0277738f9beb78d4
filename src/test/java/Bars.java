import java.util.function.Consumer;

/** All bars of a sale together with all others: 256 sales, of which each is barred by the first that applies. */
final class Bars {
    private static final int ARTIST = 0, BUYER = 1, OTHER = 2, DEALER = 3;
    private static final int ALL = 256;

    private final boolean holderFailed, buyerFailed, isShort, isConsigned, isBarred, isPoor, isPunished, isFull;
    private final FreePort port = Scenes.four(50);
    private final int parts;
    private final int price;

    private Bars(int which) {
        holderFailed = (which & 1) != 0;
        buyerFailed = (which & 2) != 0;
        isShort = (which & 4) != 0;
        isConsigned = (which & 8) != 0;
        isBarred = (which & 16) != 0;
        isPoor = (which & 32) != 0;
        isPunished = (which & 64) != 0;
        isFull = (which & 128) != 0;
        port.work(ARTIST, 60);
        port.sell(0, 1, BUYER, 0);
        int lots = 2;
        if (isPunished) {
            port.sell(1, 1, OTHER, 0);
            lots++;
        }
        while (lots < (isFull ? 60 : 59)) {
            port.sell(0, 1, OTHER, 0);
            lots++;
        }
        if (isConsigned) {
            port.consign(0, DEALER, 0, 0, 9);
        }
        port.bar(0, isBarred ? 7 : 1);
        port.pass(1);
        fail(holderFailed, ARTIST);
        fail(buyerFailed, BUYER);
        parts = port.ofLot(0, 2) + (isShort ? 2 : 0);
        price = 50 + (isPoor ? 3 : 0);
    }

    private void fail(boolean does, int party) {
        if (does) {
            port.fail(party);
        }
    }

    static void run() {
        Consumer<Bars> by = bars ->
            Due.is(bars.told("bars"), bars.first(), bars.port.bars(0, bars.parts, BUYER, bars.price));
        Consumer<Bars> number = bars ->
            Due.is(bars.told("barredBy"), bars.number(), bars.port.barredBy(0, bars.parts, BUYER, bars.price));
        Doc.terms("It is barred by the first of these:");
        each(by);
        Doc.terms("What it is barred by, as a number:");
        each(number);
        Doc.promise(25, "Returns by what a sale would be barred.", "Returns 0 for nothing, FAILED to FULL.");
        each(by);
        Doc.promise(26, "Returns by what a sale would be barred, as a number.",
            "Returns the number; NONE if it would not be barred.");
        each(number);
        Doc.promise(15, "Throws IllegalStateException if it is barred");
        each(Bars::sellIfNotBarred);
    }

    private static void each(Consumer<Bars> test) {
        for (int which = 0; which < ALL; which++) {
            test.accept(new Bars(which));
        }
    }

    private void sellIfNotBarred() {
        String before = Inside.of(port);
        String thrown = Due.thrownBy(port, x -> x.sell(0, parts, BUYER, price));
        Due.same(told("sell") + " throws", first() == 0 ? "nothing" : "IllegalStateException", thrown);
        Due.is(told("sell") + " changes something", first() == 0, !before.equals(Inside.of(port)));
    }

    private String told(String call) {
        return call + (holderFailed ? " holder failed" : "") + (buyerFailed ? " buyer failed" : "")
            + (isShort ? " short" : "") + (isConsigned ? " consigned" : "") + (isBarred ? " barred" : "")
            + (isPoor ? " poor" : "") + (isPunished ? " punished" : "") + (isFull ? " full" : "");
    }

    private int first() {
        return holderFailed || buyerFailed ? FreePort.FAILED : isShort ? FreePort.SHORT
            : isConsigned ? FreePort.CONSIGNED : isBarred ? FreePort.BARRED : isPoor ? FreePort.POOR
            : isPunished ? FreePort.PUNISHED : isFull ? FreePort.FULL : 0;
    }

    private int number() {
        int[] numbers = {FreePort.NONE, holderFailed ? ARTIST : BUYER, 2, DEALER, 6, 3, ARTIST, 60};
        return numbers[first()];
    }
}
