import java.util.function.Supplier;

/** The rows of the promises 21 to 24, each on both sides of its boundary. */
final class LoansEdges {
    private static final int ARTIST = Scenes.ARTIST, FIRST = Scenes.FIRST, SECOND = Scenes.SECOND, THIRD = Scenes.THIRD;
    private static final String NO_LOAN = "Throws IndexOutOfBoundsException if there is no such loan";

    private LoansEdges() {
    }

    static void run() {
        lend();
        lendRefused();
        lendTooMuch();
        repay();
        seize();
        seizeRefused();
        assign();
        assignRefused();
    }

    private static void lend() {
        Doc.promise(21, "Lends on a lot.", "Returns the number of the loan.");
        FreePort port = Scenes.sold();
        Due.is("lend(1, SECOND, 200, 0, 1)", 0, port.lend(1, SECOND, 200, 0, 1));
        Due.is("lend(0, SECOND, 100, 0, 1)", 1, port.lend(0, SECOND, 100, 0, 1));
        Due.is("the lot's", 1, port.ofLot(0, 3));
        Doc.promise(21, "- lot: its number", "Throws IndexOutOfBoundsException if there is no such lot or party");
        Edge.numbered(() -> Scenes.lots(5), "lend on", 5, (x, lot) -> x.lend(lot, THIRD, 1, 0, 1));
        Edge.numbered(Scenes::sold, "lend by", 4, (x, lender) -> x.lend(1, lender, 1, 0, 1));
        Doc.promise(21, "- lender: a party, other than the HOLDER");
        Edge.another(Scenes::sold, "by", (x, who) -> x.lend(1, who, 1, 0, 1), FIRST);
        Doc.promise(21, "- amount: 1 to 1000000", "- percent: 0 to 100",
            "Throws IllegalArgumentException if amount, percent or days is out of range, or the lender is the HOLDER");
        Edge.ranged(Scenes::sold, "percent", 0, 100, (x, percent) -> x.lend(1, SECOND, 1, percent, 1));
        Due.taken(Scenes::rich, "the least", x -> x.lend(1, SECOND, 1, 0, 1));
        Due.notNow(Scenes::rich, "the most is in the range, but too much", x -> x.lend(1, SECOND, 1000000, 0, 1));
        for (int amount : new int[] {0, 1000001, -1, Integer.MIN_VALUE, Integer.MAX_VALUE, 1 << 30}) {
            Due.outOfRange(Scenes::rich, "amount " + amount, x -> x.lend(1, SECOND, amount, 0, 1));
        }
        Doc.promise(21, "- days: 1 to 1000: it is due that many days from today");
        Edge.ranged(Scenes::sold, "days", 1, 1000, (x, days) -> x.lend(1, SECOND, 1, 0, days));
        for (int days : new int[] {1, 2, 1000}) {
            Supplier<FreePort> due = Scenes.after(Scenes.passed(Scenes::sold, 3), x -> x.lend(1, SECOND, 1, 0, days));
            Due.is("the day it is due", 3 + days, due.get().ofLoan(0, 3));
            Due.notNow(Scenes.passed(due, days), "seize on it", x -> x.seize(0));
            Due.taken(Scenes.passed(due, days + 1), "seize behind it", x -> x.seize(0));
        }
    }

    private static FreePort loans(int count) {
        FreePort port = Scenes.sold();
        for (int loan = 0; loan < count; loan++) {
            port.lend(1, SECOND, 1 + loan, 0, 1);
            port.repay(loan);
        }
        return port;
    }

    private static void lendRefused() {
        Doc.promise(21, "Throws IllegalStateException if the lot has a LOAN or a DEALER, one of both has FAILED, "
            + "the lender has less MONEY, twice the amount is more than the WORTH of the lot, or there are 20");
        Due.notNow(Scenes::lent, "it has a LOAN", x -> x.lend(1, THIRD, 1, 0, 1));
        Due.taken(Scenes::lent, "another lot has one", x -> x.lend(0, THIRD, 1, 0, 1));
        Due.taken(Scenes.after(Scenes::lent, x -> x.repay(0)), "paid back", x -> x.lend(1, THIRD, 1, 0, 1));
        Supplier<FreePort> bought = Scenes.after(Scenes::lent, x -> x.sell(1, 40, THIRD, 0));
        Due.notNow(bought, "it has the LOAN of the old lot", x -> x.lend(2, SECOND, 1, 0, 1));
        Due.notNow(Scenes::consigned, "it has a DEALER", x -> x.lend(1, THIRD, 1, 0, 1));
        Due.notNow(Scenes.passed(Scenes::consigned, 6), "behind the end too", x -> x.lend(1, THIRD, 1, 0, 1));
        Supplier<FreePort> back = Scenes.after(Scenes.passed(Scenes::consigned, 6), x -> x.back(1));
        Due.taken(back, "taken back", x -> x.lend(1, THIRD, 1, 0, 1));
        Supplier<FreePort> holder = Scenes.after(Scenes::sold, x -> x.fail(FIRST));
        Supplier<FreePort> lender = Scenes.after(Scenes::sold, x -> x.fail(SECOND));
        Due.notNow(holder, "the HOLDER failed", x -> x.lend(1, SECOND, 1, 0, 1));
        Due.notNow(lender, "the lender failed", x -> x.lend(1, SECOND, 1, 0, 1));
        Due.taken(lender, "another failed", x -> x.lend(1, THIRD, 1, 0, 1));
        Due.is("the twentieth", 19, loans(19).lend(1, SECOND, 1, 0, 1));
        Due.notNow(() -> loans(20), "another, though all are gone", x -> x.lend(1, SECOND, 1, 0, 1));
    }

    private static void lendTooMuch() {
        Doc.promise(21, "the lender has less MONEY", "twice the amount is more than the WORTH of the lot");
        Supplier<FreePort> dear = Scenes.after(Scenes::sold, x -> x.value(0, 900000));
        Due.taken(dear, "all its MONEY", x -> x.lend(1, SECOND, 10000, 0, 1));
        Due.notNow(dear, "1 more", x -> x.lend(1, SECOND, 10001, 0, 1));
        Due.taken(Scenes::sold, "half of 400", x -> x.lend(1, SECOND, 200, 0, 1));
        Due.notNow(Scenes::sold, "201 of 400", x -> x.lend(1, SECOND, 201, 0, 1));
        Supplier<FreePort> odd = Scenes.after(Scenes::sold, x -> x.value(0, 599));
        Due.is("its WORTH", 399, odd.get().ofLot(1, 7));
        Due.taken(odd, "199 of 399", x -> x.lend(1, SECOND, 199, 0, 1));
        Due.notNow(odd, "200 of 399", x -> x.lend(1, SECOND, 200, 0, 1));
        Due.taken(Scenes::rich, "half of the greatest WORTH", x -> x.lend(1, SECOND, 500000, 0, 1));
        Due.notNow(Scenes::rich, "1 more", x -> x.lend(1, SECOND, 500001, 0, 1));
        Supplier<FreePort> empty = Scenes.after(Scenes::sold, x -> x.sell(1, 40, THIRD, 0));
        Due.notNow(empty, "1 of 0", x -> x.lend(1, SECOND, 1, 0, 1));
        Supplier<FreePort> doubted = Scenes.after(Scenes::sold, x -> {
            x.weight(THIRD, 1);
            x.word(THIRD, 0, false);
        });
        Due.taken(doubted, "20 of a tenth", x -> x.lend(1, SECOND, 20, 0, 1));
        Due.notNow(doubted, "21 of a tenth", x -> x.lend(1, SECOND, 21, 0, 1));
    }

    /** FIRST, who owes 200, has so much MONEY left. */
    private static FreePort left(int money) {
        FreePort port = Scenes.lent();
        port.work(THIRD, 0);
        port.sell(2, 60, FIRST, 9200 - money);
        return port;
    }

    private static void repay() {
        Doc.promise(22, "Pays a loan back.", "Returns what was owed.");
        Due.is("on its day", 200, Scenes.lent().repay(0));
        Due.is("9 days later", 209, Scenes.passed(Scenes::lent, 9).get().repay(0));
        Due.is("long behind the day it is due", 400, Scenes.passed(Scenes::lent, 200).get().repay(0));
        Doc.promise(22, "- loan: its number", NO_LOAN);
        Edge.numbered(() -> loans(3), "repay", 3, FreePort::repay);
        Edge.numbered(Scenes::lent, "repay", 1, FreePort::repay);
        Due.noSuch(Scenes::sold, "repay without loans", x -> x.repay(0));
        Doc.promise(22, "Throws IllegalStateException if it is gone, its borrower has FAILED, or has less MONEY");
        Due.notNow(Scenes.after(Scenes::lent, x -> x.repay(0)), "paid back", x -> x.repay(0));
        Due.notNow(Scenes.after(Scenes.passed(Scenes::lent, 11), x -> x.seize(0)), "seized", x -> x.repay(0));
        Due.notNow(Scenes.after(Scenes::lent, x -> x.fail(FIRST)), "its borrower failed", x -> x.repay(0));
        Due.taken(Scenes.after(Scenes::lent, x -> x.fail(SECOND)), "its lender failed", x -> x.repay(0));
        Supplier<FreePort> bought = Scenes.after(Scenes::lent, x -> {
            x.sell(1, 40, THIRD, 0);
            x.fail(THIRD);
        });
        Due.taken(bought, "who holds the lot failed", x -> x.repay(0));
        Due.taken(() -> left(200), "with as much", x -> x.repay(0));
        Due.notNow(() -> left(199), "with 1 less", x -> x.repay(0));
        Due.taken(Scenes.passed(() -> left(201), 1), "with as much a day later", x -> x.repay(0));
        Due.notNow(Scenes.passed(() -> left(200), 1), "with 1 less a day later", x -> x.repay(0));
    }

    private static void seize() {
        Doc.promise(23, "Seizes by a loan.", "Returns how many lots had it.");
        Due.is("one", 1, Scenes.passed(Scenes::lent, 11).get().seize(0));
        FreePort port = Scenes.lent();
        for (int lot = 2; lot < 12; lot++) {
            port.sell(1, 4, THIRD, 0);
        }
        port.pass(11);
        Due.is("all, one of 0 PARTS too", 11, port.seize(0));
        Doc.promise(23, "- loan: its number", NO_LOAN);
        Edge.numbered(() -> loans(3), "seize", 3, FreePort::seize);
        Edge.numbered(Scenes.passed(Scenes::lent, 11), "seize", 1, FreePort::seize);
        Due.noSuch(Scenes::sold, "seize without loans", x -> x.seize(0));
    }

    private static void seizeRefused() {
        Doc.promise(23, "Throws IllegalStateException if it is gone, its lender has FAILED, or it cannot be seized");
        Supplier<FreePort> late = Scenes.passed(Scenes::lent, 11);
        Due.notNow(Scenes.after(late, x -> x.seize(0)), "seized", x -> x.seize(0));
        Due.notNow(Scenes.after(late, x -> x.repay(0)), "paid back", x -> x.seize(0));
        Due.notNow(Scenes.passed(Scenes.after(Scenes::lent, x -> x.repay(0)), 11), "paid ahead", x -> x.seize(0));
        Due.notNow(Scenes.after(late, x -> x.fail(SECOND)), "its lender failed", x -> x.seize(0));
        Due.taken(Scenes.after(late, x -> x.fail(FIRST)), "its borrower failed", x -> x.seize(0));
        Due.notNow(Scenes::lent, "on its day", x -> x.seize(0));
        Due.notNow(Scenes.passed(Scenes::lent, 10), "on the day it is due", x -> x.seize(0));
        Due.taken(late, "a day behind it", x -> x.seize(0));
        Supplier<FreePort> assigned = Scenes.after(late, x -> {
            x.assign(0, THIRD, 0);
            x.fail(SECOND);
        });
        Due.taken(assigned, "the lender before failed", x -> x.seize(0));
        Due.notNow(Scenes.after(assigned, x -> x.fail(THIRD)), "the lender then failed", x -> x.seize(0));
    }

    private static void assign() {
        Doc.promise(24, "Lets another party be the lender of a loan, for a price that it pays to the lender.",
            "Returns the lender before.");
        FreePort port = Scenes.lent();
        Due.is("assign(0, THIRD, 70)", SECOND, port.assign(0, THIRD, 70));
        Due.is("it pays", 10000 - 70, port.ofParty(THIRD, 0));
        Due.is("to the lender", 9800 + 70, port.ofParty(SECOND, 0));
        Due.is("assign(0, ARTIST, 0)", THIRD, port.assign(0, ARTIST, 0));
        Due.is("its lender", ARTIST, port.ofLoan(0, 1));
        Doc.promise(24, "- loan: its number", "Throws IndexOutOfBoundsException if there is no such loan or party");
        Edge.numbered(Scenes::lent, "assign", 1, (x, loan) -> x.assign(loan, THIRD, 0));
        Edge.numbered(() -> loans(3), "assign", 3, (x, loan) -> x.assign(loan, THIRD, 0));
        Edge.numbered(Scenes::lent, "assign to", 4, (x, party) -> x.assign(0, party, 0));
        Doc.promise(24, "- price: 0 to 1000000",
            "Throws IllegalArgumentException if price is out of range, or the party is the lender or the borrower");
        Supplier<FreePort> rich = Scenes.after(Scenes::rich, x -> x.lend(1, SECOND, 5, 0, 1));
        Edge.ranged(rich, "price", 0, 1000000, (x, price) -> x.assign(0, THIRD, price));
        Doc.promise(24, "- party: a party, other than the lender and the borrower");
        Edge.another(Scenes::lent, "to", (x, who) -> x.assign(0, who, 0), FIRST, SECOND);
        Supplier<FreePort> assigned = Scenes.after(Scenes::lent, x -> x.assign(0, THIRD, 0));
        Due.outOfRange(assigned, "to the lender then", x -> x.assign(0, THIRD, 0));
        Due.taken(assigned, "to the lender before", x -> x.assign(0, SECOND, 0));
        Supplier<FreePort> bought = Scenes.after(Scenes::lent, x -> x.sell(1, 40, THIRD, 0));
        Due.taken(bought, "to who holds the lot", x -> x.assign(0, THIRD, 0));
        Due.outOfRange(bought, "to the borrower, who holds it no more", x -> x.assign(0, FIRST, 0));
    }

    private static void assignRefused() {
        Doc.promise(24, "Throws IllegalStateException if it is gone, the lender or the party has FAILED, or the "
            + "party has less MONEY");
        Due.notNow(Scenes.after(Scenes::lent, x -> x.repay(0)), "paid back", x -> x.assign(0, THIRD, 0));
        Supplier<FreePort> seized = Scenes.after(Scenes.passed(Scenes::lent, 11), x -> x.seize(0));
        Due.notNow(seized, "seized", x -> x.assign(0, THIRD, 0));
        Due.notNow(Scenes.after(Scenes::lent, x -> x.fail(SECOND)), "the lender failed", x -> x.assign(0, THIRD, 0));
        Due.notNow(Scenes.after(Scenes::lent, x -> x.fail(THIRD)), "the party failed", x -> x.assign(0, THIRD, 0));
        Due.taken(Scenes.after(Scenes::lent, x -> x.fail(FIRST)), "the borrower failed", x -> x.assign(0, THIRD, 0));
        Due.taken(Scenes::lent, "for all its MONEY", x -> x.assign(0, THIRD, 10000));
        Due.notNow(Scenes::lent, "for 1 more", x -> x.assign(0, THIRD, 10001));
        Due.taken(Scenes.passed(Scenes::lent, 11), "behind the day it is due", x -> x.assign(0, THIRD, 0));
    }
}
