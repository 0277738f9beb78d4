import java.util.function.Supplier;

/** The rows of the promises 25 to 34, each on both sides of its boundary. */
final class AskedEdges {
    private static final int ARTIST = Scenes.ARTIST, FIRST = Scenes.FIRST, SECOND = Scenes.SECOND, THIRD = Scenes.THIRD;
    private static final String NO_LOT_OR_PARTY = "Throws IndexOutOfBoundsException if there is no such lot or party";
    private static final String NO_WORK = "Throws IndexOutOfBoundsException if there is no such work";
    private static final String BAD_OFFER =
        "Throws IllegalArgumentException if parts or price is out of range, or the buyer is the HOLDER";
    private static final String BAD_WHAT = "Throws IllegalArgumentException if what is out of range";

    private AskedEdges() {
    }

    static void run() {
        offer(25, FreePort::bars);
        offer(26, FreePort::barredBy);
        price();
        ofParty();
        ofPartyOwed();
        ofWork();
        ofLot();
        ofLoan();
        doubt();
        gaps();
        index();
    }

    private interface Offer {
        int asked(FreePort port, int lot, int parts, int buyer, int price);
    }

    private static void offer(int promise, Offer offer) {
        Doc.promise(promise, "- lot: its number", NO_LOT_OR_PARTY);
        Edge.numbered(() -> Scenes.lots(60), "lot", 60, (x, lot) -> offer.asked(x, lot, 1, THIRD, 0));
        Edge.numbered(Scenes::sold, "buyer", 4, (x, buyer) -> offer.asked(x, 1, 1, buyer, 0));
        Doc.promise(promise, "- parts: 1 to 60", "- price: 0 to 1000000", BAD_OFFER);
        Edge.ranged(Scenes::sold, "parts", 1, 60, (x, parts) -> offer.asked(x, 1, parts, SECOND, 0));
        Edge.ranged(Scenes::sold, "price", 0, 1000000, (x, price) -> offer.asked(x, 1, 1, SECOND, price));
        Doc.promise(promise, "- buyer: a party, other than the HOLDER");
        Edge.another(Scenes::sold, "buyer", (x, who) -> offer.asked(x, 1, 1, who, 0), FIRST);
    }

    private static void price() {
        Doc.promise(27, "Returns the price of the SALE by which a lot came, as a party knows it.",
            "Returns the price; NONE if it came by no SALE, or the party does not know it.");
        FreePort port = Scenes.sold();
        Due.is("by no SALE", FreePort.NONE, port.price(0, ARTIST));
        Due.is("known", 1000, port.price(1, FIRST));
        Due.is("not known", FreePort.NONE, port.price(1, SECOND));
        Due.is("0, known", 0, Scenes.flipped().price(2, SECOND));
        Due.is("0, not known", FreePort.NONE, Scenes.flipped().price(2, THIRD));
        Doc.promise(27, "- lot: its number", "- party: its number", NO_LOT_OR_PARTY);
        Edge.numbered(Scenes::sold, "price", 2, (x, lot) -> x.price(lot, FIRST));
        Edge.numbered(Scenes::sold, "price for", 4, (x, party) -> x.price(1, party));
    }

    private static void ofParty() {
        Doc.promise(28, "Tells something of a party.", "Returns the number.", "- party: its number",
            "Throws IndexOutOfBoundsException if there is no such party");
        Edge.numbered(Scenes::sold, "ofParty", 4, (x, party) -> x.ofParty(party, 0));
        Doc.promise(28, BAD_WHAT);
        Edge.ranged(Scenes::sold, "what", 0, 6, (x, what) -> x.ofParty(FIRST, what));
        Doc.promise(28, "- what: 0 its MONEY, 1 the PARTS that it holds of all works, together,");
        Due.is("none left", 0, Scenes.after(Scenes::sold, x -> x.sell(1, 1, SECOND, 10000)).get().ofParty(SECOND, 0));
        Due.is("no PARTS", 0, Scenes.sold().ofParty(SECOND, 1));
        Supplier<FreePort> two = Scenes.after(Scenes::sold, x -> {
            x.work(FIRST, 600);
            x.sell(1, 7, SECOND, 0);
        });
        Due.is("of a lot and another work", 33 + 60, two.get().ofParty(FIRST, 1));
        Due.is("of one lot", 7, two.get().ofParty(SECOND, 1));
        Due.is("of a lot of what is left", 20, two.get().ofParty(ARTIST, 1));
        Doc.promise(28, "4 the WORTH of all its lots, together, 5 whether it has FAILED (1 or 0),");
        Due.is("330 and 600", 930, two.get().ofParty(FIRST, 4));
        Due.is("of the first lot", 200, two.get().ofParty(ARTIST, 4));
        Due.is("none", 0, two.get().ofParty(THIRD, 4));
        Due.is("it has not", 0, Scenes.sold().ofParty(FIRST, 5));
        Due.is("it has", 1, Scenes.after(Scenes::sold, x -> x.fail(FIRST)).get().ofParty(FIRST, 5));
        Doc.promise(28, "6 how many artists punish it");
        Due.is("none", 0, Scenes.sold().ofParty(FIRST, 6));
        Due.is("one", 1, Scenes.flipped().ofParty(FIRST, 6));
        Due.is("one still", 1, Scenes.after(Scenes::flipped, x -> x.sell(1, 1, THIRD, 0)).get().ofParty(FIRST, 6));
        Due.is("all but itself", 9, punishedByAll().ofParty(9, 6));
    }

    /** The party 9 buys of the nine others, who are artists all, and sells on. */
    private static FreePort punishedByAll() {
        FreePort port = new FreePort();
        for (int i = 0; i < 10; i++) {
            port.party(0, 0);
        }
        for (int artist = 0; artist < 9; artist++) {
            port.work(artist, 0);
            int bought = port.sell(3 * artist, 1, 9, 0);
            port.sell(bought, 1, (artist + 1) % 9, 0);
        }
        return port;
    }

    private static void ofPartyOwed() {
        Doc.promise(28, "2 what it owes by all loans, 3 what is owed to it,");
        FreePort port = Scenes.passed(Scenes::lent, 2).get();
        Due.is("it owes", 202, port.ofParty(FIRST, 2));
        Due.is("it is owed", 202, port.ofParty(SECOND, 3));
        Due.is("it owes nothing", 0, port.ofParty(SECOND, 2));
        Due.is("nothing is owed to it", 0, port.ofParty(FIRST, 3));
        port.lend(0, SECOND, 100, 100, 1);
        port.work(FIRST, 20);
        port.lend(2, THIRD, 10, 0, 1);
        Due.is("by two", 212, port.ofParty(FIRST, 2));
        Due.is("by two", 302, port.ofParty(SECOND, 3));
        port.repay(0);
        Due.is("by the other", 10, port.ofParty(FIRST, 2));
        Due.is("by the other", 100, port.ofParty(SECOND, 3));
        Due.is("the most that one can owe by eleven", 11 * 100500000, elevenGreatLoans().ofParty(FIRST, 2));
        Due.is("the most that one can be owed by them", 11 * 100500000, elevenGreatLoans().ofParty(SECOND, 3));
    }

    /** FIRST borrows 500000 on each of eleven works, spends it at SECOND's each time, and 20000 days go by. */
    private static FreePort elevenGreatLoans() {
        FreePort port = Scenes.four(1000000);
        port.work(SECOND, 0);
        for (int loan = 0; loan < 11; loan++) {
            port.work(FIRST, 1000000);
            port.lend(2 * loan + 1, SECOND, 500000, 100, 1000);
            port.sell(0, 1, FIRST, 500000);
        }
        Scenes.pass(port, 20000);
        return port;
    }

    private static void ofWork() {
        Doc.promise(29, "Tells something of a work.", "Returns the number.", "- work: its number", NO_WORK);
        Edge.numbered(Scenes::sold, "ofWork", 1, (x, work) -> x.ofWork(work, 0));
        Doc.promise(29, BAD_WHAT);
        Edge.ranged(Scenes::sold, "what", 0, 5, (x, what) -> x.ofWork(0, what));
        Doc.promise(29, "- what: 0 its VALUE, 1 its land, 2 whether it is sealed (1 or 0), 3 the days that are left "
            + "of its bar, 4 the day of its listing, NONE without one, 5 how many lots of it have PARTS");
        FreePort port = Scenes.sold();
        int[] before = {600, 0, 0, 0, FreePort.NONE, 2};
        for (int what = 0; what <= 5; what++) {
            Due.is("ofWork(0, " + what + ")", before[what], port.ofWork(0, what));
        }
        port.weight(THIRD, 1);
        port.word(THIRD, 0, false);
        port.seal(0, true);
        port.bar(0, 2);
        port.list(0);
        port.sell(1, 40, ARTIST, 0);
        port.pass(1);
        int[] then = {60, 0, 1, 1, 0, 2};
        for (int what = 0; what <= 5; what++) {
            Due.is("ofWork(0, " + what + ")", then[what], port.ofWork(0, what));
        }
        port.pass(1);
        Due.is("a bar that is over", 0, port.ofWork(0, 3));
        port.pass(1);
        Due.is("and a day later", 0, port.ofWork(0, 3));
        port.sell(2, 39, SECOND, 0);
        Due.is("a lot of 1 part counts", 3, port.ofWork(0, 5));
        port.sell(2, 1, SECOND, 0);
        Due.is("a lot of 0 parts does not", 3, port.ofWork(0, 5));
        port.seal(0, false);
        port.bring(0, 3);
        Due.is("its land", 3, port.ofWork(0, 1));
        port.work(SECOND, 8);
        int[] other = {8, 2, 0, 0, FreePort.NONE, 1};
        for (int what = 0; what <= 5; what++) {
            Due.is("ofWork(1, " + what + ")", other[what], port.ofWork(1, what));
        }
    }

    private static void ofLot() {
        Doc.promise(30, "Tells something of a lot.", "Returns the number.", "- lot: its number",
            "Throws IndexOutOfBoundsException if there is no such lot");
        Edge.numbered(() -> Scenes.lots(60), "ofLot", 60, (x, lot) -> x.ofLot(lot, 8));
        Doc.promise(30, BAD_WHAT);
        Edge.ranged(Scenes::sold, "what", 0, 8, (x, what) -> x.ofLot(1, what));
        Doc.promise(30, "- what: 0 its work, 1 its HOLDER, 2 its PARTS, 3 its LOAN, 4 its DEALER, 5 the lot from "
            + "which it came, 6 the day of its SALE, 7 its WORTH, 8 its chain; NONE for 3 to 6 without one");
        int[] none = {0, ARTIST, 20, FreePort.NONE, FreePort.NONE, FreePort.NONE, FreePort.NONE, 200, 0};
        int[] sold = {0, FIRST, 40, FreePort.NONE, FreePort.NONE, 0, 0, 400, 1};
        int[] pledged = {0, FIRST, 40, 0, SECOND, 0, 0, 400, 1};
        FreePort port = Scenes.lent();
        port.consign(1, SECOND, 0, 0, 0);
        for (int what = 0; what <= 8; what++) {
            Due.is("without: ofLot(0, " + what + ")", none[what], port.ofLot(0, what));
            Due.is("sold: ofLot(1, " + what + ")", sold[what], Scenes.sold().ofLot(1, what));
            Due.is("with: ofLot(1, " + what + ")", pledged[what], port.ofLot(1, what));
        }
        FreePort later = Scenes.passed(Scenes::sold, 8).get();
        later.work(THIRD, 59);
        later.sell(2, 59, FIRST, 0);
        int[] last = {1, FIRST, 59, FreePort.NONE, FreePort.NONE, 2, 8, 58, 1};
        for (int what = 0; what <= 8; what++) {
            Due.is("later: ofLot(3, " + what + ")", last[what], later.ofLot(3, what));
        }
    }

    private static void ofLoan() {
        Doc.promise(31, "Tells something of a loan.", "Returns the number.", "- loan: its number",
            "Throws IndexOutOfBoundsException if there is no such loan");
        Edge.numbered(Scenes::lent, "ofLoan", 1, (x, loan) -> x.ofLoan(loan, 0));
        Due.noSuch(Scenes::sold, "ofLoan(0, 0) without loans", x -> x.ofLoan(0, 0));
        Doc.promise(31, BAD_WHAT);
        Edge.ranged(Scenes::lent, "what", 0, 5, (x, what) -> x.ofLoan(0, what));
        Doc.promise(31, "- what: 0 its borrower, 1 its lender, 2 what is owed by it, 0 if it is gone, 3 the day it "
            + "is due, 4 whether it could be seized (1 or 0; 0 if it is gone), whether its lender has FAILED or "
            + "not, 5 whether it is gone (1 or 0)");
        Supplier<FreePort> due = Scenes.passed(Scenes::lent, 10);
        Supplier<FreePort> late = Scenes.passed(Scenes::lent, 11);
        loanIs("on the day it is due", due, FIRST, SECOND, 210, 10, 0, 0);
        loanIs("a day behind it", late, FIRST, SECOND, 211, 10, 1, 0);
        loanIs("its lender failed", Scenes.after(late, x -> x.fail(SECOND)), FIRST, SECOND, 211, 10, 1, 0);
        loanIs("its lender failed ahead", Scenes.after(due, x -> x.fail(SECOND)), FIRST, SECOND, 210, 10, 0, 0);
        loanIs("paid back", Scenes.after(late, x -> x.repay(0)), FIRST, SECOND, 0, 10, 0, 1);
        loanIs("seized", Scenes.after(late, x -> x.seize(0)), FIRST, SECOND, 0, 10, 0, 1);
        loanIs("assigned", Scenes.after(due, x -> x.assign(0, THIRD, 0)), FIRST, THIRD, 210, 10, 0, 0);
    }

    private static void loanIs(String name, Supplier<FreePort> made, int... due) {
        FreePort port = made.get();
        for (int what = 0; what <= 5; what++) {
            Due.is(name + ": ofLoan(0, " + what + ")", due[what], port.ofLoan(0, what));
        }
    }

    private static void doubt() {
        Doc.promise(32, "Returns the doubt of a work on a day.", "Returns the doubt.");
        FreePort port = Scenes.fresh();
        port.weight(FIRST, 4);
        port.pass(3);
        port.word(FIRST, 0, false);
        Due.is("the day ahead of a word", 0, port.doubt(0, 2));
        Due.is("its day", 4, port.doubt(0, 3));
        Doc.promise(32, "- work: its number", NO_WORK);
        Edge.numbered(Scenes.after(Scenes::fresh, x -> x.work(FIRST, 0)), "doubt", 2, (x, work) -> x.doubt(work, 0));
        Doc.promise(32, "- day: 0 to today", "Throws IllegalArgumentException if day is out of range");
        Edge.ranged(Scenes::fresh, "day on day 0", 0, 0, (x, day) -> x.doubt(0, day));
        Edge.ranged(Scenes.passed(Scenes::fresh, 1), "day on day 1", 0, 1, (x, day) -> x.doubt(0, day));
        Edge.ranged(Scenes.passed(Scenes::fresh, 20000), "day on the last", 0, 20000, (x, day) -> x.doubt(0, day));
    }

    private static void gaps() {
        Doc.promise(33, "Counts the years of which no paper of a work tells.", "Returns how many, of from to to.");
        FreePort port = Scenes.fresh();
        Due.is("all", 101, port.gaps(0, 1900, 2000));
        port.paper(0, 1940, 1949);
        Due.is("ten less", 91, port.gaps(0, 1900, 2000));
        Due.is("ahead of it", 1, port.gaps(0, 1939, 1939));
        Due.is("its first", 0, port.gaps(0, 1940, 1940));
        Due.is("its last", 0, port.gaps(0, 1949, 1949));
        Due.is("behind it", 1, port.gaps(0, 1950, 1950));
        port.paper(0, 1900, 2000);
        Due.is("none", 0, port.gaps(0, 1900, 2000));
        Doc.promise(33, "- work: its number", NO_WORK);
        Edge.numbered(Scenes.after(Scenes::fresh, x -> x.work(FIRST, 0)), "gaps", 2,
            (x, work) -> x.gaps(work, 1950, 1950));
        Doc.promise(33, "- from: 1900 to 2000", "Throws IllegalArgumentException if from or to is out of range");
        Edge.ranged(Scenes::fresh, "from", 1900, 2000, (x, from) -> x.gaps(0, from, 2000));
        Doc.promise(33, "- to: from to 2000");
        Edge.ranged(Scenes::fresh, "to, from 1950", 1950, 2000, (x, to) -> x.gaps(0, 1950, to));
        Edge.ranged(Scenes::fresh, "to, from 1900", 1900, 2000, (x, to) -> x.gaps(0, 1900, to));
        Edge.ranged(Scenes::fresh, "to, from 2000", 2000, 2000, (x, to) -> x.gaps(0, 2000, to));
        Due.outOfRange(Scenes::fresh, "gaps(0, 1899, 1899)", x -> x.gaps(0, 1899, 1899));
        Due.outOfRange(Scenes::fresh, "gaps(0, 2001, 2001)", x -> x.gaps(0, 2001, 2001));
    }

    private static void index() {
        Doc.promise(34, "Returns the index; NONE without such lots.");
        Due.is("nothing at all", FreePort.NONE, new FreePort().index());
        Due.is("one SALE", FreePort.NONE, Scenes.sold().index());
        Supplier<FreePort> two = Scenes.after(Scenes::sold, x -> x.sell(1, 1, SECOND, 1));
        Due.is("1000 * 1 * 40 / (1000 * 1)", 40, two.get().index());
        Supplier<FreePort> small = Scenes.after(Scenes::fresh, x -> x.sell(0, 40, FIRST, 1001));
        Due.is("0 is not none", 0, Scenes.after(small, x -> x.sell(1, 40, SECOND, 1)).get().index());
        Due.is("a price of 0", FreePort.NONE, Scenes.flipped().index());
    }
}
