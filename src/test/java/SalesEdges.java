import java.util.function.Supplier;

/** The rows of the promises 15 to 20, each on both sides of its boundary. */
final class SalesEdges {
    private static final int ARTIST = Scenes.ARTIST, FIRST = Scenes.FIRST, SECOND = Scenes.SECOND, THIRD = Scenes.THIRD;
    private static final String NO_LOT = "Throws IndexOutOfBoundsException if there is no such lot";
    private static final String NO_LOT_OR_PARTY = "Throws IndexOutOfBoundsException if there is no such lot or party";

    private SalesEdges() {
    }

    static void run() {
        sell();
        sellBarred();
        consign();
        consignRefused();
        back();
        deal();
        dealRefused();
        dealBarred();
        tell();
        restore();
        restoreRefused();
    }

    private static void sell() {
        Doc.promise(15, "Sells PARTS of a lot.", "Returns the new lot.");
        FreePort port = Scenes.fresh();
        for (int lot = 1; lot <= 59; lot++) {
            Due.is("sell(0, 1, FIRST, 1)", lot, port.sell(0, 1, FIRST, 1));
        }
        Due.is("what is left", 1, port.ofLot(0, 2));
        Doc.promise(15, "- lot: its number", NO_LOT_OR_PARTY);
        Edge.numbered(() -> Scenes.lots(5), "sell", 5, (x, lot) -> x.sell(lot, 1, THIRD, 0));
        Edge.numbered(Scenes::sold, "sell to", 4, (x, buyer) -> x.sell(0, 1, buyer, 0));
        Doc.promise(15, "- parts: 1 to 60", "- price: 0 to 1000000",
            "Throws IllegalArgumentException if parts or price is out of range, or the buyer is the HOLDER");
        Edge.ranged(Scenes::fresh, "parts", 1, 60, (x, parts) -> x.sell(0, parts, FIRST, 0));
        Edge.ranged(Scenes::rich, "price", 0, 1000000, (x, price) -> x.sell(1, 1, SECOND, price));
        Doc.promise(15, "- buyer: a party, other than the HOLDER");
        Edge.another(Scenes::sold, "to", (x, who) -> x.sell(1, 1, who, 0), FIRST);
        Due.outOfRange(Scenes::fresh, "to the HOLDER of the first lot", x -> x.sell(0, 1, ARTIST, 0));
    }

    /** Each of the bars of a sale alone; Bars has them all together. */
    private static void sellBarred() {
        Doc.promise(15, "Throws IllegalStateException if it is barred");
        Due.taken(Scenes::sold, "by nothing", x -> x.sell(1, 40, SECOND, 10000));
        Due.notNow(Scenes.after(Scenes::sold, x -> x.fail(FIRST)), "the HOLDER failed", x -> x.sell(1, 1, SECOND, 0));
        Due.notNow(Scenes.after(Scenes::sold, x -> x.fail(SECOND)), "the buyer failed", x -> x.sell(1, 1, SECOND, 0));
        Due.notNow(Scenes::sold, "short of a part", x -> x.sell(1, 41, SECOND, 0));
        Due.notNow(Scenes::consigned, "consigned", x -> x.sell(1, 1, THIRD, 0));
        Due.notNow(Scenes.after(Scenes::sold, x -> x.bar(0, 1)), "a day of a bar", x -> x.sell(1, 1, SECOND, 0));
        Due.notNow(Scenes::sold, "1 is missing", x -> x.sell(1, 40, SECOND, 10001));
        Due.notNow(Scenes::flipped, "punished", x -> x.sell(0, 1, FIRST, 0));
        Due.taken(() -> Scenes.lots(59), "the sixtieth", x -> x.sell(0, 1, SECOND, 0));
        Due.notNow(() -> Scenes.lots(60), "another", x -> x.sell(0, 1, SECOND, 0));
    }

    private static void consign() {
        Doc.promise(16, "Consigns a lot.");
        Due.is("its DEALER", SECOND, Scenes.consigned().ofLot(1, 4));
        Doc.promise(16, "- lot: its number", NO_LOT_OR_PARTY);
        Edge.numbered(() -> Scenes.lots(5), "consign", 5, (x, lot) -> x.consign(lot, THIRD, 0, 0, 0));
        Edge.numbered(Scenes::sold, "consign to", 4, (x, dealer) -> x.consign(1, dealer, 0, 0, 0));
        Doc.promise(16, "- floor: 0 to 1000000", "- percent: 0 to 50",
            "Throws IllegalArgumentException if floor, percent or days is out of range, or the dealer is the HOLDER");
        Edge.ranged(Scenes::sold, "floor", 0, 1000000, (x, floor) -> x.consign(1, SECOND, floor, 0, 0));
        Edge.ranged(Scenes::sold, "percent", 0, 50, (x, percent) -> x.consign(1, SECOND, 0, percent, 0));
        Doc.promise(16, "- dealer: a party, other than the HOLDER");
        Edge.another(Scenes::sold, "to", (x, who) -> x.consign(1, who, 0, 0, 0), FIRST);
        Doc.promise(16, "- days: 0 to 1000: the end is that many days from today");
        Edge.ranged(Scenes::sold, "days", 0, 1000, (x, days) -> x.consign(1, SECOND, 0, 0, days));
        for (int days : new int[] {0, 1, 999, 1000}) {
            Supplier<FreePort> end = Scenes.after(Scenes.passed(Scenes::sold, 4), x -> {
                x.consign(1, SECOND, 0, 0, days);
                Scenes.pass(x, days);
            });
            Due.taken(end, "deal on the end", x -> x.deal(1, THIRD, 0));
            Due.notNow(end, "back on the end", x -> x.back(1));
            Due.notNow(Scenes.passed(end, 1), "deal behind it", x -> x.deal(1, THIRD, 0));
            Due.taken(Scenes.passed(end, 1), "back behind it", x -> x.back(1));
        }
    }

    private static void consignRefused() {
        Doc.promise(16, "Throws IllegalStateException if it has 0 PARTS, or a DEALER, or one of both has FAILED");
        Supplier<FreePort> single = Scenes.after(Scenes::sold, x -> x.sell(1, 39, THIRD, 0));
        Supplier<FreePort> empty = Scenes.after(Scenes::sold, x -> x.sell(1, 40, THIRD, 0));
        Due.taken(single, "of 1 part", x -> x.consign(1, SECOND, 0, 0, 0));
        Due.notNow(empty, "of 0 parts", x -> x.consign(1, SECOND, 0, 0, 0));
        Due.notNow(Scenes::consigned, "to another dealer", x -> x.consign(1, THIRD, 0, 0, 0));
        Due.notNow(Scenes::consigned, "to its dealer", x -> x.consign(1, SECOND, 0, 0, 0));
        Due.notNow(Scenes.passed(Scenes::consigned, 6), "behind the end", x -> x.consign(1, THIRD, 0, 0, 0));
        Supplier<FreePort> back = Scenes.after(Scenes.passed(Scenes::consigned, 6), x -> x.back(1));
        Due.taken(back, "taken back", x -> x.consign(1, THIRD, 0, 0, 0));
        Supplier<FreePort> holder = Scenes.after(Scenes::sold, x -> x.fail(FIRST));
        Supplier<FreePort> dealer = Scenes.after(Scenes::sold, x -> x.fail(SECOND));
        Due.notNow(holder, "the HOLDER failed", x -> x.consign(1, SECOND, 0, 0, 0));
        Due.notNow(dealer, "the dealer failed", x -> x.consign(1, SECOND, 0, 0, 0));
        Due.notNow(Scenes.after(holder, x -> x.fail(SECOND)), "both failed", x -> x.consign(1, SECOND, 0, 0, 0));
        Due.taken(dealer, "another failed", x -> x.consign(1, THIRD, 0, 0, 0));
    }

    private static void back() {
        Doc.promise(17, "Takes a lot back from its DEALER.", "Returns the DEALER.");
        FreePort port = Scenes.passed(Scenes::consigned, 6).get();
        Due.is("back(1)", SECOND, port.back(1));
        Due.is("it has none", FreePort.NONE, port.ofLot(1, 4));
        Due.is("it is sold by its HOLDER", 2, port.sell(1, 40, THIRD, 0));
        FreePort first = Scenes.fresh();
        first.consign(0, THIRD, 0, 0, 0);
        first.pass(1);
        Due.is("back(0)", THIRD, first.back(0));
        Doc.promise(17, "- lot: its number", NO_LOT);
        Edge.numbered(Scenes.passed(Scenes::consigned, 6), "back", 2, FreePort::back);
        Doc.promise(17, "Throws IllegalStateException if it has none, or today is not behind the end");
        Due.notNow(Scenes.passed(Scenes::consigned, 6), "it has none", x -> x.back(0));
        Due.notNow(Scenes::consigned, "days ahead of the end", x -> x.back(1));
        Due.notNow(Scenes.passed(Scenes::consigned, 5), "on the end", x -> x.back(1));
        Due.taken(Scenes.passed(Scenes::consigned, 6), "a day behind it", x -> x.back(1));
        Due.notNow(Scenes.after(Scenes.passed(Scenes::consigned, 6), x -> x.back(1)), "again", x -> x.back(1));
    }

    private static void deal() {
        Doc.promise(18, "Lets the DEALER of a lot deal it.", "Returns the new lot.");
        FreePort port = Scenes.consigned();
        Due.is("deal(1, THIRD, 500)", 2, port.deal(1, THIRD, 500));
        Due.is("the new HOLDER", THIRD, port.ofLot(2, 1));
        Doc.promise(18, "- lot: its number", NO_LOT_OR_PARTY);
        Edge.numbered(Scenes::consigned, "deal", 2, (x, lot) -> x.deal(lot, THIRD, 500));
        Edge.numbered(Scenes::consigned, "deal to", 4, (x, buyer) -> x.deal(1, buyer, 500));
        Doc.promise(18, "- price: 0 to 1000000",
            "Throws IllegalArgumentException if price is out of range, or the buyer is the HOLDER");
        Supplier<FreePort> rich = Scenes.after(Scenes::rich, x -> x.consign(1, SECOND, 0, 50, 0));
        Edge.ranged(rich, "price", 0, 1000000, (x, price) -> x.deal(1, THIRD, price));
        Doc.promise(18, "- buyer: a party, other than the HOLDER");
        Edge.another(Scenes::consigned, "to", (x, who) -> x.deal(1, who, 500), FIRST);
    }

    private static void dealRefused() {
        Doc.promise(18, "Throws IllegalStateException if it has no DEALER, the price is below the floor, today is "
            + "behind the end, or it is barred");
        Due.notNow(Scenes::sold, "no DEALER", x -> x.deal(1, THIRD, 500));
        Due.notNow(Scenes::consigned, "below the floor", x -> x.deal(1, THIRD, 499));
        Due.taken(Scenes::consigned, "for the floor", x -> x.deal(1, THIRD, 500));
        Supplier<FreePort> dear = Scenes.after(Scenes::rich, x -> x.consign(1, SECOND, 1000000, 0, 0));
        Due.notNow(dear, "below the greatest floor", x -> x.deal(1, THIRD, 999999));
        Due.taken(dear, "for the greatest floor", x -> x.deal(1, THIRD, 1000000));
        Due.taken(Scenes.passed(Scenes::consigned, 5), "on the end", x -> x.deal(1, THIRD, 500));
        Due.notNow(Scenes.passed(Scenes::consigned, 6), "behind the end", x -> x.deal(1, THIRD, 500));
        Supplier<FreePort> late = Scenes.after(Scenes.passed(Scenes::consigned, 6), x -> x.back(1));
        Due.notNow(late, "taken back", x -> x.deal(1, THIRD, 500));
        Due.notNow(Scenes.after(Scenes::consigned, x -> x.deal(1, THIRD, 500)), "dealt", x -> x.deal(1, THIRD, 500));
    }

    private static void dealBarred() {
        Doc.promise(18, "or it is barred");
        Supplier<FreePort> made = Scenes::consigned;
        Due.notNow(Scenes.after(made, x -> x.fail(FIRST)), "the HOLDER failed", x -> x.deal(1, THIRD, 500));
        Due.notNow(Scenes.after(made, x -> x.fail(THIRD)), "the buyer failed", x -> x.deal(1, THIRD, 500));
        Due.notNow(Scenes.after(made, x -> x.fail(SECOND)), "the DEALER failed", x -> x.deal(1, THIRD, 500));
        Due.taken(Scenes.after(made, x -> x.fail(ARTIST)), "the artist failed", x -> x.deal(1, THIRD, 500));
        Supplier<FreePort> barred = Scenes.after(made, x -> x.bar(0, 2));
        Due.notNow(Scenes.passed(barred, 1), "a day of the bar is left", x -> x.deal(1, THIRD, 500));
        Due.taken(Scenes.passed(barred, 2), "none is left", x -> x.deal(1, THIRD, 500));
        Due.taken(barred, "to the land of the work", x -> x.deal(1, ARTIST, 500));
        Due.taken(made, "for all its money", x -> x.deal(1, THIRD, 10000));
        Due.notNow(made, "1 is missing", x -> x.deal(1, THIRD, 10001));
        Supplier<FreePort> punished = Scenes.after(Scenes::flipped, x -> x.consign(0, THIRD, 0, 0, 0));
        Due.notNow(punished, "punished", x -> x.deal(0, FIRST, 0));
        Due.taken(punished, "another", x -> x.deal(0, SECOND, 0));
        Supplier<FreePort> last = Scenes.after(() -> Scenes.lots(59), x -> x.consign(0, SECOND, 0, 0, 0));
        Due.taken(last, "the sixtieth lot", x -> x.deal(0, THIRD, 0));
        Supplier<FreePort> full = Scenes.after(() -> Scenes.lots(60), x -> x.consign(0, SECOND, 0, 0, 0));
        Due.notNow(full, "another", x -> x.deal(0, THIRD, 0));
    }

    private static void tell() {
        Doc.promise(19, "Tells a party the price of the SALE by which a lot came.",
            "Returns whether that one knew it.");
        FreePort port = Scenes.sold();
        Due.is("to one who does not", false, port.tell(1, FIRST, SECOND));
        Due.is("to one who was told", true, port.tell(1, FIRST, SECOND));
        Due.is("to who sold it", true, port.tell(1, SECOND, ARTIST));
        Due.is("to oneself", true, port.tell(1, SECOND, SECOND));
        Due.is("it is known", 1000, port.price(1, SECOND));
        Doc.promise(19, "- lot: its number", "- who: a party that tells it", "- whom: a party", NO_LOT_OR_PARTY);
        Edge.numbered(Scenes::sold, "tell", 2, (x, lot) -> x.tell(lot, FIRST, SECOND));
        Edge.numbered(Scenes::sold, "tell by", 4, (x, who) -> x.tell(1, who, SECOND));
        Edge.numbered(Scenes::sold, "tell to", 4, (x, whom) -> x.tell(1, FIRST, whom));
        Edge.another(Scenes::sold, "told to", (x, who) -> x.tell(1, ARTIST, who));
        Doc.promise(19, "Throws IllegalStateException if it came by no SALE, or the first one does not know the price");
        Due.notNow(Scenes::sold, "by none", x -> x.tell(0, ARTIST, FIRST));
        Supplier<FreePort> returned = Scenes.after(Scenes::looted, x -> x.restore(2, THIRD));
        Due.notNow(returned, "given back", x -> x.tell(2, FIRST, THIRD));
        Due.notNow(Scenes::sold, "does not know", x -> x.tell(1, SECOND, THIRD));
        Due.notNow(Scenes::sold, "does not know, to one who does", x -> x.tell(1, SECOND, FIRST));
        Due.notNow(Scenes::sold, "does not know, to oneself", x -> x.tell(1, SECOND, SECOND));
        Due.taken(Scenes.after(Scenes::sold, x -> x.tell(1, FIRST, SECOND)), "was told", x -> x.tell(1, SECOND, THIRD));
        Due.notNow(Scenes::flipped, "knows that of another lot", x -> x.tell(2, ARTIST, THIRD));
    }

    private static void restore() {
        Doc.promise(20, "Gives a lot back to an heir.", "Returns who held it.");
        FreePort port = Scenes.looted();
        Due.is("restore(2, THIRD)", SECOND, port.restore(2, THIRD));
        Due.is("the heir's", THIRD, port.ofLot(2, 1));
        Doc.promise(20, "- lot: its number", "- heir: a party", NO_LOT_OR_PARTY);
        Edge.numbered(Scenes::looted, "restore", 3, (x, lot) -> x.restore(lot, THIRD));
        Edge.numbered(Scenes::looted, "restore to", 4, (x, heir) -> x.restore(2, heir));
        Edge.another(Scenes::looted, "to", (x, who) -> x.restore(2, who));
    }

    private static void restoreRefused() {
        Doc.promise(20, "Throws IllegalStateException if it has 0 PARTS, its work is not listed, it came by no "
            + "SALE, or by one ahead of the day of listing, or the heir has FAILED");
        Due.taken(Scenes.after(Scenes::looted, x -> x.sell(2, 9, THIRD, 0)), "1 part", x -> x.restore(2, THIRD));
        Due.notNow(Scenes.after(Scenes::looted, x -> x.sell(2, 10, THIRD, 0)), "0 parts", x -> x.restore(2, THIRD));
        Due.notNow(Scenes::sold, "not listed", x -> x.restore(1, THIRD));
        Due.taken(Scenes.after(Scenes::sold, x -> x.list(0)), "listed", x -> x.restore(1, THIRD));
        Supplier<FreePort> otherListed = Scenes.after(Scenes::sold, x -> {
            x.work(THIRD, 0);
            x.list(1);
        });
        Due.notNow(otherListed, "another work is listed", x -> x.restore(1, THIRD));
        Due.notNow(Scenes::looted, "by no SALE", x -> x.restore(0, THIRD));
        Due.notNow(Scenes.after(Scenes::looted, x -> x.restore(2, THIRD)), "given back", x -> x.restore(2, SECOND));
        Due.notNow(Scenes::looted, "a day ahead of the day of listing", x -> x.restore(1, THIRD));
        Due.taken(Scenes::looted, "on the day of listing", x -> x.restore(2, THIRD));
        Supplier<FreePort> later = Scenes.after(Scenes.passed(Scenes::looted, 1), x -> x.sell(1, 1, SECOND, 0));
        Due.taken(later, "a day behind it", x -> x.restore(3, THIRD));
        Due.taken(Scenes.passed(later, 1000), "long behind it", x -> x.restore(3, THIRD));
        Due.notNow(Scenes.after(Scenes::looted, x -> x.fail(THIRD)), "the heir failed", x -> x.restore(2, THIRD));
        Due.taken(Scenes.after(Scenes::looted, x -> x.fail(SECOND)), "the HOLDER failed", x -> x.restore(2, THIRD));
    }
}
