import java.util.function.Supplier;

/** Promises 15 to 20: sell, consign, back, deal, tell, restore. */
final class SalesTest {
    private static final int ARTIST = 0, FIRST = 1, SECOND = 2, THIRD = 3;

    public static void main(String[] args) {
        promise15Sell();
        promise15ResaleRight();
        promise15Flips();
        promise15Bars();
        promise15Refusals();
        promise16Consign();
        promise16Refusals();
        promise17Back();
        promise18Deal();
        promise18FlipsAndKnowers();
        promise18Bars();
        promise18Refusals();
        promise19Tell();
        promise20Restore();
        promise20Refusals();
        Due.end("SalesTest");
    }

    /** The artist of land 0, three more of the lands 1, 2 and 3 with 10000 each; a work worth 600. */
    private static FreePort fresh() {
        FreePort port = new FreePort();
        port.party(100, 0);
        for (int land = 1; land < 4; land++) {
            port.party(10000, land);
        }
        port.work(ARTIST, 600);
        return port;
    }

    private static FreePort soldToFirst() {
        FreePort port = fresh();
        port.sell(0, 40, FIRST, 1000);
        return port;
    }

    private static void lotIs(FreePort port, String name, int lot, int... due) {
        for (int what = 0; what < due.length; what++) {
            Due.is(name + ": ofLot(" + lot + ", " + what + ")", due[what], port.ofLot(lot, what));
        }
    }

    private static void promise15Sell() {
        FreePort port = fresh();
        port.right(0, 20);
        port.right(1, 20);
        port.pass(3);
        Due.is("sell(0, 25, FIRST, 999)", 1, port.sell(0, 25, FIRST, 999));
        Due.is("the artist, who sells, has all", 1099, port.ofParty(ARTIST, 0));
        Due.is("the buyer pays", 9001, port.ofParty(FIRST, 0));
        lotIs(port, "the new lot", 1, 0, FIRST, 25, -1, -1, 0, 3, 250, 1);
        lotIs(port, "the old lot", 0, 0, ARTIST, 35, -1, -1, -1, -1, 350, 0);
        Due.is("the buyer knows", 999, port.price(1, FIRST));
        Due.is("the holder knows", 999, port.price(1, ARTIST));
        Due.is("another does not", -1, port.price(1, SECOND));
        Due.is("all parts, for all the money", 2, port.sell(0, 35, SECOND, 10000));
        lotIs(port, "the emptied lot", 0, 0, ARTIST, 0, -1, -1, -1, -1, 0, 0);
        Due.is("nothing is left", 0, port.ofParty(SECOND, 0));
        Due.is("nothing is held", 0, port.ofParty(ARTIST, 1));
        Due.is("for nothing", 3, port.sell(1, 1, THIRD, 0));
        Due.is("its price", 0, port.price(3, THIRD));
        lotIs(port, "the third", 3, 0, THIRD, 1, -1, -1, 1, 3, 10, 2);
        FreePort pledged = fresh();
        pledged.lend(0, SECOND, 100, 0, 9);
        pledged.sell(0, 30, FIRST, 5);
        Due.is("the new lot has the loan of the old one", 0, pledged.ofLot(1, 3));
        Due.is("the old one still has it", 0, pledged.ofLot(0, 3));
        pledged.sell(1, 30, THIRD, 5);
        Due.is("and the next one", 0, pledged.ofLot(2, 3));
        Due.is("one without parts too", 0, pledged.ofLot(1, 3));
    }

    private static void promise15ResaleRight() {
        FreePort port = soldToFirst();
        port.right(0, 1);
        port.right(1, 20);
        port.right(2, 3);
        port.sell(1, 10, SECOND, 999);
        Due.is("20 percent of the holder's land, towards 0", 1100 + 199, port.ofParty(ARTIST, 0));
        Due.is("the rest is the holder's", 9000 + 800, port.ofParty(FIRST, 0));
        Due.is("the buyer paid", 10000 - 999, port.ofParty(SECOND, 0));
        port.sell(2, 10, ARTIST, 199);
        Due.is("whoever buys: the artist pays 199 and gets 5", 1299 - 199 + 5, port.ofParty(ARTIST, 0));
        Due.is("the rest is the holder's", 9001 + 194, port.ofParty(SECOND, 0));
        port.sell(3, 10, THIRD, 1000);
        Due.is("the artist is the holder: all of it", 1105 + 1000, port.ofParty(ARTIST, 0));
        FreePort compatriots = new FreePort();
        compatriots.party(0, 0);
        compatriots.party(0, 0);
        compatriots.party(100, 3);
        compatriots.work(0, 0);
        compatriots.right(0, 20);
        compatriots.sell(0, 60, 1, 0);
        compatriots.sell(1, 60, 2, 100);
        Due.is("20 percent of land 0", 20, compatriots.ofParty(0, 0));
    }

    private static void promise15Flips() {
        FreePort port = soldToFirst();
        port.pass(100);
        port.sell(1, 1, SECOND, 0);
        Due.is("100 days later", 1, port.ofParty(FIRST, 6));
        Due.is("who bought of him is not punished", 0, port.ofParty(SECOND, 6));
        port.sell(2, 1, THIRD, 0);
        Due.is("not bought of the artist", 0, port.ofParty(SECOND, 6));
        Due.is("PUNISHED", FreePort.PUNISHED, port.bars(0, 1, FIRST, 0));
        Due.is("another is not", 0, port.bars(0, 1, SECOND, 0));
        Due.is("others still sell to him", 0, port.bars(3, 1, FIRST, 0));
        port.pass(1000);
        Due.is("for good", FreePort.PUNISHED, port.bars(0, 1, FIRST, 0));
        port.work(ARTIST, 0);
        Due.is("for all works of the artist", FreePort.PUNISHED, port.bars(4, 1, FIRST, 0));
        port.work(SECOND, 0);
        Due.is("not for another artist's", 0, port.bars(5, 1, FIRST, 0));
        FreePort twice = soldToFirst();
        twice.sell(1, 1, SECOND, 0);
        twice.sell(1, 1, SECOND, 0);
        Due.is("punished twice is punished", 1, twice.ofParty(FIRST, 6));
        FreePort soldLater = fresh();
        soldLater.pass(90);
        soldLater.sell(0, 40, FIRST, 0);
        soldLater.pass(100);
        soldLater.sell(1, 1, SECOND, 0);
        Due.is("sold on day 90, and on day 190", 1, soldLater.ofParty(FIRST, 6));
        FreePort late = soldToFirst();
        late.pass(101);
        late.sell(1, 1, SECOND, 0);
        Due.is("101 days later", 0, late.ofParty(FIRST, 6));
        FreePort toArtist = soldToFirst();
        toArtist.sell(1, 40, ARTIST, 0);
        Due.is("sold back to the artist", 1, toArtist.ofParty(FIRST, 6));
        toArtist.sell(2, 40, SECOND, 0);
        toArtist.sell(3, 1, THIRD, 0);
        Due.is("bought of the artist, who had bought it", 1, toArtist.ofParty(SECOND, 6));
        Due.is("the artist himself never", 0, toArtist.ofParty(ARTIST, 6));
        FreePort seized = fresh();
        seized.sell(0, 60, FIRST, 10);
        seized.lend(1, SECOND, 300, 100, 1);
        seized.pass(2);
        seized.seize(0);
        seized.sell(1, 10, THIRD, 0);
        Due.is("a lot that came by no sale is not flipped", 0, seized.ofParty(SECOND, 6));
        FreePort later = soldToFirst();
        later.lend(0, SECOND, 100, 0, 1);
        later.pass(2);
        later.seize(0);
        Due.is("the lot from which it came is another's now", SECOND, later.ofLot(0, 1));
        later.sell(1, 1, THIRD, 0);
        Due.is("the artist held it at that sale", 1, later.ofParty(FIRST, 6));
    }

    private static void promise15Bars() {
        FreePort port = soldToFirst();
        Due.notNow(SalesTest::soldToFirst, "SHORT", x -> x.sell(1, 41, SECOND, 0));
        Due.notNow(SalesTest::soldToFirst, "POOR", x -> x.sell(1, 1, SECOND, 10001));
        Due.is("not POOR", 2, port.sell(1, 1, SECOND, 10000));
        Supplier<FreePort> holderFailed = () -> Scenes.after(soldToFirst(), x -> x.fail(FIRST));
        Due.notNow(holderFailed, "FAILED, the holder", x -> x.sell(1, 1, SECOND, 0));
        Supplier<FreePort> buyerFailed = () -> Scenes.after(soldToFirst(), x -> x.fail(SECOND));
        Due.notNow(buyerFailed, "FAILED, the buyer", x -> x.sell(1, 1, SECOND, 0));
        Supplier<FreePort> consigned = () -> Scenes.after(soldToFirst(), x -> x.consign(1, THIRD, 0, 0, 5));
        Due.notNow(consigned, "CONSIGNED", x -> x.sell(1, 1, SECOND, 0));
        Supplier<FreePort> barred = () -> Scenes.after(soldToFirst(), x -> x.bar(0, 5));
        Due.notNow(barred, "BARRED", x -> x.sell(1, 1, SECOND, 0));
        Due.is("not BARRED: a buyer of the land of the work", 2, barred.get().sell(1, 1, ARTIST, 0));
        Supplier<FreePort> punished = () -> Scenes.after(soldToFirst(), x -> x.sell(1, 1, SECOND, 0));
        Due.notNow(punished, "PUNISHED", x -> x.sell(0, 1, FIRST, 0));
        Due.notNow(SalesTest::full, "FULL", x -> x.sell(0, 1, SECOND, 0));
        Due.is("the work of the 60th", 0, full().ofLot(59, 0));
        Due.notNow(SalesTest::full, "FULL", x -> x.sell(59, 1, SECOND, 0));
    }

    /** 60 lots: 59 sold off the first one, which has a part left. */
    private static FreePort full() {
        FreePort port = new FreePort();
        for (int i = 0; i < 3; i++) {
            port.party(50, 0);
        }
        port.work(0, 60);
        for (int i = 0; i < 59; i++) {
            port.sell(0, 1, 1, 0);
        }
        return port;
    }

    private static void promise15Refusals() {
        Due.noSuch(SalesTest::soldToFirst, "sell(2, 0, 9, -1)", x -> x.sell(2, 0, 9, -1));
        Due.noSuch(SalesTest::soldToFirst, "sell(-1, 1, 2, 0)", x -> x.sell(-1, 1, 2, 0));
        Due.noSuch(SalesTest::soldToFirst, "sell(1, 0, 4, 0)", x -> x.sell(1, 0, 4, 0));
        Due.noSuch(SalesTest::soldToFirst, "sell(1, 99, -1, 0)", x -> x.sell(1, 99, -1, 0));
        Due.outOfRange(SalesTest::soldToFirst, "sell(1, 0, 2, 0)", x -> x.sell(1, 0, 2, 0));
        Due.outOfRange(SalesTest::soldToFirst, "sell(1, -1, 2, 0)", x -> x.sell(1, -1, 2, 0));
        Due.outOfRange(SalesTest::soldToFirst, "sell(1, 61, 2, 0)", x -> x.sell(1, 61, 2, 0));
        Due.outOfRange(SalesTest::soldToFirst, "sell(1, 1, 2, -1)", x -> x.sell(1, 1, 2, -1));
        Due.outOfRange(SalesTest::soldToFirst, "sell(1, 1, 2, 1000001)", x -> x.sell(1, 1, 2, 1000001));
        Due.outOfRange(SalesTest::soldToFirst, "sell(1, 1, 1, 0)", x -> x.sell(1, 1, 1, 0));
        Due.outOfRange(SalesTest::soldToFirst, "sell to the holder, short", x -> x.sell(1, 60, 1, 0));
        Due.notNow(SalesTest::soldToFirst, "60 parts are in the range, but short", x -> x.sell(1, 60, 2, 0));
        Due.notNow(SalesTest::soldToFirst, "1000000 is in the range, but poor", x -> x.sell(1, 1, 2, 1000000));
    }

    private static void promise16Consign() {
        FreePort port = soldToFirst();
        port.consign(1, SECOND, 1000000, 50, 1000);
        Due.is("its dealer", SECOND, port.ofLot(1, 4));
        lotIs(port, "it is the holder's still", 1, 0, FIRST, 40);
        port.consign(0, FIRST, 0, 0, 0);
        Due.is("its dealer", FIRST, port.ofLot(0, 4));
        Due.is("on its last day", 2, port.deal(0, SECOND, 0));
        Supplier<FreePort> untilToday = () -> Scenes.after(soldToFirst(), x -> x.consign(0, FIRST, 0, 0, 0));
        Due.notNow(untilToday, "back on the end", x -> x.back(0));
        Due.is("back behind it", FIRST, passed(untilToday.get(), 1).back(0));
        Due.notNow(() -> passed(untilToday.get(), 1), "deal behind it", x -> x.deal(0, SECOND, 0));
        Supplier<FreePort> long1000 =
            () -> passed(Scenes.after(soldToFirst(), x -> x.consign(0, FIRST, 0, 0, 1000)), 1000);
        Due.is("deal on day 1000", 2, long1000.get().deal(0, SECOND, 0));
        Due.notNow(long1000, "back on day 1000", x -> x.back(0));
        Due.is("back on day 1001", FIRST, passed(long1000.get(), 1).back(0));
        FreePort pledged = fresh();
        pledged.lend(0, FIRST, 1, 0, 1);
        pledged.consign(0, SECOND, 0, 0, 1);
        Due.is("a lot with a loan", SECOND, pledged.ofLot(0, 4));
    }

    private static FreePort passed(FreePort port, int days) {
        port.pass(days);
        return port;
    }

    private static void promise16Refusals() {
        Supplier<FreePort> made = SalesTest::soldToFirst;
        Due.noSuch(made, "consign(2, ..)", x -> x.consign(2, SECOND, -1, 0, 0));
        Due.noSuch(made, "consign(-1, ..)", x -> x.consign(-1, SECOND, 0, 0, 0));
        Due.noSuch(made, "consign to 4", x -> x.consign(1, 4, 0, 51, 0));
        Due.noSuch(made, "consign to 4 for -1", x -> x.consign(1, 4, -1, 0, 0));
        Due.noSuch(made, "consign to -1", x -> x.consign(1, -1, 0, 0, 1001));
        Due.outOfRange(made, "floor -1", x -> x.consign(1, SECOND, -1, 0, 0));
        Due.outOfRange(made, "floor 1000001", x -> x.consign(1, SECOND, 1000001, 0, 0));
        Due.outOfRange(made, "percent -1", x -> x.consign(1, SECOND, 0, -1, 0));
        Due.outOfRange(made, "percent 51", x -> x.consign(1, SECOND, 0, 51, 0));
        Due.outOfRange(made, "days -1", x -> x.consign(1, SECOND, 0, 0, -1));
        Due.outOfRange(made, "days 1001", x -> x.consign(1, SECOND, 0, 0, 1001));
        Due.outOfRange(made, "to the holder", x -> x.consign(1, FIRST, 0, 0, 0));
        Supplier<FreePort> empty = () -> Scenes.after(soldToFirst(), x -> x.sell(1, 40, SECOND, 0));
        Due.notNow(empty, "0 parts", x -> x.consign(1, SECOND, 0, 0, 0));
        Due.outOfRange(empty, "0 parts, to the holder", x -> x.consign(1, FIRST, 0, 0, 0));
        Supplier<FreePort> dealt = () -> Scenes.after(soldToFirst(), x -> x.consign(1, THIRD, 0, 0, 0));
        Due.notNow(dealt, "a dealer", x -> x.consign(1, SECOND, 0, 0, 0));
        Due.notNow(dealt, "the same dealer", x -> x.consign(1, THIRD, 0, 0, 0));
        Due.outOfRange(dealt, "a dealer, percent 51", x -> x.consign(1, SECOND, 0, 51, 0));
        Supplier<FreePort> holderFailed = () -> Scenes.after(soldToFirst(), x -> x.fail(FIRST));
        Due.notNow(holderFailed, "the holder has failed", x -> x.consign(1, SECOND, 0, 0, 0));
        Supplier<FreePort> dealerFailed = () -> Scenes.after(soldToFirst(), x -> x.fail(SECOND));
        Due.notNow(dealerFailed, "the dealer has failed", x -> x.consign(1, SECOND, 0, 0, 0));
    }

    /** Lot 1, of FIRST, is consigned to SECOND for at least 500, for 25 percent, for 5 days. */
    private static FreePort consigned() {
        FreePort port = soldToFirst();
        port.consign(1, SECOND, 500, 25, 5);
        return port;
    }

    private static void promise17Back() {
        FreePort port = passed(consigned(), 6);
        Due.is("back(1)", SECOND, port.back(1));
        Due.is("no dealer", -1, port.ofLot(1, 4));
        lotIs(port, "it stays the holder's", 1, 0, FIRST, 40, -1, -1, 0, 0);
        Due.is("it can be sold", 2, port.sell(1, 1, SECOND, 0));
        port.consign(1, THIRD, 0, 0, 0);
        Due.is("and consigned anew", THIRD, port.ofLot(1, 4));
        Due.noSuch(SalesTest::consigned, "back(2)", x -> x.back(2));
        Due.noSuch(SalesTest::consigned, "back(-1)", x -> x.back(-1));
        Due.notNow(SalesTest::consigned, "back without a dealer", x -> x.back(0));
        Due.notNow(SalesTest::consigned, "back on the first day", x -> x.back(1));
        Due.notNow(() -> passed(consigned(), 5), "back on the end", x -> x.back(1));
        Due.notNow(() -> Scenes.after(passed(consigned(), 6), x -> x.back(1)), "back again", x -> x.back(1));
    }

    private static void promise18Deal() {
        FreePort port = passed(consigned(), 5);
        port.right(1, 20);
        port.right(2, 1);
        Due.is("deal(1, THIRD, 999)", 2, port.deal(1, THIRD, 999));
        Due.is("25 percent are the dealer's", 10000 + 249, port.ofParty(SECOND, 0));
        Due.is("20 percent are the artist's", 1100 + 199, port.ofParty(ARTIST, 0));
        Due.is("the rest is the holder's", 9000 + 551, port.ofParty(FIRST, 0));
        Due.is("the buyer pays", 10000 - 999, port.ofParty(THIRD, 0));
        lotIs(port, "all parts in a new lot", 2, 0, THIRD, 40, -1, -1, 1, 5, 400, 2);
        lotIs(port, "the old lot", 1, 0, FIRST, 0, -1, -1, 0, 0, 0, 1);
        FreePort atFloor = consigned();
        Due.is("for the floor", 2, atFloor.deal(1, SECOND, 500));
        Due.is("the dealer himself buys", 10000 - 500 + 125, atFloor.ofParty(SECOND, 0));
        FreePort ofArtist = fresh();
        ofArtist.right(0, 20);
        ofArtist.consign(0, FIRST, 0, 50, 0);
        ofArtist.deal(0, SECOND, 101);
        Due.is("the artist is the holder: no resale right", 100 + 51, ofArtist.ofParty(ARTIST, 0));
        Due.is("half is the dealer's", 10000 + 50, ofArtist.ofParty(FIRST, 0));
        FreePort pledged = fresh();
        pledged.lend(0, FIRST, 100, 0, 9);
        pledged.consign(0, FIRST, 0, 0, 0);
        pledged.deal(0, SECOND, 1);
        Due.is("the lien follows", 0, pledged.ofLot(1, 3));
    }

    private static void promise18FlipsAndKnowers() {
        FreePort port = passed(consigned(), 5);
        port.deal(1, THIRD, 600);
        Due.is("the holder is punished", 1, port.ofParty(FIRST, 6));
        Due.is("the dealer is not", 0, port.ofParty(SECOND, 6));
        Due.is("the dealer knows", 600, port.price(2, SECOND));
        Due.is("the buyer knows", 600, port.price(2, THIRD));
        Due.is("the holder does not", -1, port.price(2, FIRST));
        Due.is("the artist does not", -1, port.price(2, ARTIST));
        FreePort late = passed(soldToFirst(), 101);
        late.consign(1, SECOND, 0, 0, 0);
        late.deal(1, THIRD, 0);
        Due.is("not 101 days later", 0, late.ofParty(FIRST, 6));
        FreePort dealtOfArtist = fresh();
        dealtOfArtist.consign(0, FIRST, 0, 0, 0);
        dealtOfArtist.deal(0, SECOND, 0);
        dealtOfArtist.sell(1, 1, THIRD, 0);
        Due.is("dealt for the artist, and flipped", 1, dealtOfArtist.ofParty(SECOND, 6));
    }

    private static void promise18Bars() {
        Supplier<FreePort> holderFailed = () -> Scenes.after(consigned(), x -> x.fail(FIRST));
        Due.notNow(holderFailed, "FAILED, the holder", x -> x.deal(1, THIRD, 500));
        Supplier<FreePort> buyerFailed = () -> Scenes.after(consigned(), x -> x.fail(THIRD));
        Due.notNow(buyerFailed, "FAILED, the buyer", x -> x.deal(1, THIRD, 500));
        Supplier<FreePort> dealerFailed = () -> Scenes.after(consigned(), x -> x.fail(SECOND));
        Due.notNow(dealerFailed, "FAILED, the dealer", x -> x.deal(1, THIRD, 500));
        Supplier<FreePort> barred = () -> Scenes.after(consigned(), x -> x.bar(0, 6));
        Due.notNow(barred, "BARRED", x -> x.deal(1, THIRD, 500));
        Due.is("not BARRED", 2, barred.get().deal(1, ARTIST, 500));
        Due.notNow(SalesTest::consigned, "POOR", x -> x.deal(1, THIRD, 10001));
        Due.is("not POOR", 2, consigned().deal(1, THIRD, 10000));
        Supplier<FreePort> punished = () -> Scenes.after(soldToFirst(), x -> {
            x.sell(1, 1, SECOND, 0);
            x.consign(0, THIRD, 0, 0, 9);
        });
        Due.notNow(punished, "PUNISHED", x -> x.deal(0, FIRST, 0));
        Due.is("not PUNISHED", 3, punished.get().deal(0, SECOND, 0));
        Supplier<FreePort> full = () -> Scenes.after(full(), x -> x.consign(0, 1, 0, 0, 9));
        Due.notNow(full, "FULL", x -> x.deal(0, 2, 0));
    }

    private static void promise18Refusals() {
        Supplier<FreePort> made = SalesTest::consigned;
        Due.noSuch(made, "deal(2, 3, -1)", x -> x.deal(2, 3, -1));
        Due.noSuch(made, "deal(-1, 3, 500)", x -> x.deal(-1, 3, 500));
        Due.noSuch(made, "deal(1, 4, 500)", x -> x.deal(1, 4, 500));
        Due.noSuch(made, "deal(1, -1, -1)", x -> x.deal(1, -1, -1));
        Due.outOfRange(made, "deal(1, 3, -1)", x -> x.deal(1, 3, -1));
        Due.outOfRange(made, "deal(1, 3, 1000001)", x -> x.deal(1, 3, 1000001));
        Due.outOfRange(made, "deal to the holder", x -> x.deal(1, FIRST, 600));
        Due.outOfRange(made, "deal to the holder, without a dealer", x -> x.deal(0, ARTIST, 0));
        Due.notNow(made, "deal without a dealer", x -> x.deal(0, THIRD, 600));
        Due.notNow(made, "below the floor", x -> x.deal(1, THIRD, 499));
        Due.notNow(() -> passed(consigned(), 6), "behind the end", x -> x.deal(1, THIRD, 600));
        Due.notNow(() -> Scenes.after(consigned(), x -> x.deal(1, THIRD, 600)), "dealt", x -> x.deal(1, THIRD, 600));
    }

    private static void promise19Tell() {
        FreePort port = soldToFirst();
        Due.is("tell(1, FIRST, SECOND)", false, port.tell(1, FIRST, SECOND));
        Due.is("SECOND knows", 1000, port.price(1, SECOND));
        Due.is("THIRD does not", -1, port.price(1, THIRD));
        Due.is("again", true, port.tell(1, ARTIST, SECOND));
        Due.is("who was told tells", false, port.tell(1, SECOND, THIRD));
        Due.is("THIRD knows", 1000, port.price(1, THIRD));
        Due.is("to himself", true, port.tell(1, FIRST, FIRST));
        port.sell(1, 1, SECOND, 7);
        Due.is("another sale's price", -1, port.price(2, THIRD));
        port.fail(FIRST);
        Due.is("a failed one tells", false, port.tell(2, FIRST, THIRD));
        Due.noSuch(SalesTest::soldToFirst, "tell(2, 0, 1)", x -> x.tell(2, 0, 1));
        Due.noSuch(SalesTest::soldToFirst, "tell(-1, 0, 1)", x -> x.tell(-1, 0, 1));
        Due.noSuch(SalesTest::soldToFirst, "tell(0, 4, 1)", x -> x.tell(0, 4, 1));
        Due.noSuch(SalesTest::soldToFirst, "tell(0, -1, 1)", x -> x.tell(0, -1, 1));
        Due.noSuch(SalesTest::soldToFirst, "tell(1, 2, 4)", x -> x.tell(1, 2, 4));
        Due.noSuch(SalesTest::soldToFirst, "tell(1, 0, -1)", x -> x.tell(1, 0, -1));
        Due.notNow(SalesTest::soldToFirst, "came by none", x -> x.tell(0, ARTIST, FIRST));
        Due.notNow(SalesTest::soldToFirst, "does not know", x -> x.tell(1, SECOND, THIRD));
        Due.notNow(SalesTest::soldToFirst, "does not know, to himself", x -> x.tell(1, SECOND, SECOND));
        Due.notNow(SalesTest::soldToFirst, "does not know, to one who does", x -> x.tell(1, SECOND, FIRST));
    }

    /** Sold on day 0 to FIRST (lot 1), listed on day 1, sold on to SECOND that day (lot 2) and on day 2 (lot 3). */
    private static FreePort looted() {
        FreePort port = soldToFirst();
        port.pass(1);
        port.list(0);
        port.sell(1, 10, SECOND, 50);
        port.pass(1);
        port.sell(1, 10, SECOND, 50);
        return port;
    }

    private static void promise20Restore() {
        FreePort port = looted();
        Due.is("sold on the day of listing", SECOND, port.restore(2, THIRD));
        lotIs(port, "it is the heir's, by no sale", 2, 0, THIRD, 10, -1, -1, 1, -1, 100, 0);
        Due.is("no price", -1, port.price(2, SECOND));
        Due.is("sold later, to its holder himself", SECOND, port.restore(3, SECOND));
        Due.is("by no sale then", -1, port.ofLot(3, 6));
        FreePort single = looted();
        single.sell(1, 1, SECOND, 0);
        Due.is("a single part", SECOND, single.restore(4, THIRD));
        FreePort dealt = looted();
        dealt.consign(2, THIRD, 0, 0, 9);
        dealt.restore(2, ARTIST);
        Due.is("without a dealer", -1, dealt.ofLot(2, 4));
        FreePort pledged = looted();
        pledged.lend(2, THIRD, 5, 0, 9);
        pledged.restore(2, FIRST);
        Due.is("its loan stays", 0, pledged.ofLot(2, 3));
        Due.is("the borrower too", SECOND, pledged.ofLoan(0, 0));
        FreePort chained = looted();
        chained.sell(2, 5, THIRD, 100);
        Due.is("its chain", 3, chained.ofLot(4, 8));
        chained.restore(2, FIRST);
        Due.is("what came from it has a chain of 1", 1, chained.ofLot(4, 8));
        Due.is("and is out of the index", 200, chained.index());
    }

    private static void promise20Refusals() {
        Due.noSuch(SalesTest::looted, "restore(4, 0)", x -> x.restore(4, 0));
        Due.noSuch(SalesTest::looted, "restore(-1, 0)", x -> x.restore(-1, 0));
        Due.noSuch(SalesTest::looted, "restore(1, 4)", x -> x.restore(1, 4));
        Due.noSuch(SalesTest::looted, "restore(1, -1)", x -> x.restore(1, -1));
        Due.notNow(SalesTest::looted, "came by none", x -> x.restore(0, FIRST));
        Due.notNow(SalesTest::looted, "came ahead of the listing", x -> x.restore(1, THIRD));
        Due.notNow(SalesTest::soldToFirst, "not listed", x -> x.restore(1, THIRD));
        Due.notNow(() -> Scenes.after(looted(), x -> x.fail(THIRD)), "the heir has failed", x -> x.restore(2, THIRD));
        Due.notNow(() -> Scenes.after(looted(), x -> x.sell(2, 10, THIRD, 0)), "0 parts", x -> x.restore(2, FIRST));
        Due.notNow(() -> Scenes.after(looted(), x -> x.restore(2, THIRD)), "given back", x -> x.restore(2, FIRST));
    }
}
