import java.util.function.Supplier;

/** Promises 21 to 24: lend, repay, seize, assign. */
final class LoansTest {
    private static final int ARTIST = 0, HOUSE = 1, BANK = 2, OTHER = 3;

    public static void main(String[] args) {
        promise21Lend();
        promise21Refusals();
        promise21TwentyLoans();
        promise22Repay();
        promise22Refusals();
        promise23SeizeWhenDue();
        promise23SeizeByMargin();
        promise23WhatTheSeizedLotsAre();
        promise23Refusals();
        promise24Assign();
        promise24Refusals();
        Due.end("LoansTest");
    }

    /** The HOUSE holds the lot 1 of all 60 parts of a work of 6000, bought for 100. */
    private static FreePort held() {
        FreePort port = new FreePort();
        port.party(0, 0);
        port.party(1000, 0);
        port.party(5000, 0);
        port.party(2000, 0);
        port.work(ARTIST, 6000);
        port.sell(0, 60, HOUSE, 100);
        return port;
    }

    /** On day 0 the BANK lends the HOUSE 2000 on lot 1, at 50 percent, for 10 days. */
    private static FreePort lent() {
        FreePort port = held();
        port.lend(1, BANK, 2000, 50, 10);
        return port;
    }

    private static void loanIs(FreePort port, String name, int loan, int... due) {
        for (int what = 0; what < due.length; what++) {
            Due.is(name + ": ofLoan(" + loan + ", " + what + ")", due[what], port.ofLoan(loan, what));
        }
    }

    private static void promise21Lend() {
        FreePort port = held();
        port.pass(7);
        Due.is("lend(1, BANK, 3000, 100, 1000)", 0, port.lend(1, BANK, 3000, 100, 1000));
        loanIs(port, "the loan", 0, HOUSE, BANK, 3000, 1007, 0, 0);
        Due.is("to the borrower", 900 + 3000, port.ofParty(HOUSE, 0));
        Due.is("from the lender", 5000 - 3000, port.ofParty(BANK, 0));
        Due.is("the lot has it", 0, port.ofLot(1, 3));
        Due.is("another has not", -1, port.ofLot(0, 3));
        port.pass(1);
        Due.is("owed a day later", 3000 + 30, port.ofLoan(0, 2));
        port.pass(99);
        Due.is("owed 100 days later", 6000, port.ofLoan(0, 2));
        FreePort all = held();
        all.value(0, 1000000);
        Due.is("all that the lender has", 0, all.lend(1, BANK, 5000, 0, 1));
        Due.is("nothing is left", 0, all.ofParty(BANK, 0));
        Due.is("on a part lot", 0, part().lend(2, BANK, 500, 0, 1));
        Due.notNow(LoansTest::part, "on a part lot, over half of its worth", x -> x.lend(2, BANK, 501, 0, 1));
    }

    /** OTHER holds lot 2 of 10 parts, worth 1000. */
    private static FreePort part() {
        return Scenes.after(held(), x -> x.sell(1, 10, OTHER, 0));
    }

    private static void promise21Refusals() {
        Supplier<FreePort> made = LoansTest::held;
        Due.noSuch(made, "lend on lot 2", x -> x.lend(2, BANK, 0, 0, 1));
        Due.noSuch(made, "lend on lot -1", x -> x.lend(-1, BANK, 1, 0, 1));
        Due.noSuch(made, "lend by 4", x -> x.lend(1, 4, 1, 101, 1));
        Due.noSuch(made, "lend by -1", x -> x.lend(1, -1, 1, 0, 0));
        Due.outOfRange(made, "amount 0", x -> x.lend(1, BANK, 0, 0, 1));
        Due.outOfRange(made, "amount 1000001", x -> x.lend(1, BANK, 1000001, 0, 1));
        Due.outOfRange(made, "percent -1", x -> x.lend(1, BANK, 1, -1, 1));
        Due.outOfRange(made, "percent 101", x -> x.lend(1, BANK, 1, 101, 1));
        Due.outOfRange(made, "days 0", x -> x.lend(1, BANK, 1, 0, 0));
        Due.outOfRange(made, "days 1001", x -> x.lend(1, BANK, 1, 0, 1001));
        Due.outOfRange(made, "by the holder", x -> x.lend(1, HOUSE, 1, 0, 1));
        Due.notNow(made, "amount 1000000 is in the range", x -> x.lend(1, BANK, 1000000, 0, 1));
        Due.notNow(made, "twice the amount is more than the worth", x -> x.lend(1, BANK, 3001, 0, 1));
        Supplier<FreePort> odd = () -> Scenes.after(held(), x -> x.value(0, 101));
        Due.is("twice 50 is not", 0, odd.get().lend(1, BANK, 50, 0, 1));
        Due.notNow(odd, "twice 51 is more than 101", x -> x.lend(1, BANK, 51, 0, 1));
        Due.notNow(made, "on a lot of 0 parts", x -> x.lend(0, BANK, 1, 0, 1));
        Due.notNow(made, "the lender has less", x -> x.lend(1, OTHER, 2001, 0, 1));
        Due.is("the lender has as much", 0, held().lend(1, OTHER, 2000, 0, 1));
        Due.notNow(LoansTest::lent, "it has a loan", x -> x.lend(1, OTHER, 1, 0, 1));
        Due.outOfRange(LoansTest::lent, "it has a loan, amount 0", x -> x.lend(1, OTHER, 0, 0, 1));
        Due.outOfRange(LoansTest::lent, "it has a loan, by the holder", x -> x.lend(1, HOUSE, 1, 0, 1));
        Supplier<FreePort> dealt = () -> Scenes.after(held(), x -> x.consign(1, OTHER, 0, 0, 0));
        Due.notNow(dealt, "it has a dealer", x -> x.lend(1, BANK, 1, 0, 1));
        Due.notNow(() -> Scenes.after(held(), x -> x.fail(HOUSE)), "the holder has failed",
            x -> x.lend(1, BANK, 1, 0, 1));
        Due.notNow(() -> Scenes.after(held(), x -> x.fail(BANK)), "the lender has failed",
            x -> x.lend(1, BANK, 1, 0, 1));
        Supplier<FreePort> doubted = () -> Scenes.after(held(), x -> {
            x.weight(OTHER, 1);
            x.word(OTHER, 0, false);
        });
        Due.is("on a tenth of the value", 0, doubted.get().lend(1, BANK, 300, 0, 1));
        Due.notNow(doubted, "over half of a tenth", x -> x.lend(1, BANK, 301, 0, 1));
    }

    private static FreePort twenty(int loans) {
        FreePort port = held();
        for (int i = 0; i < loans; i++) {
            port.lend(1, BANK, 1, 0, 1);
            port.repay(i);
        }
        return port;
    }

    private static void promise21TwentyLoans() {
        Due.is("the 20th", 19, twenty(19).lend(1, BANK, 1, 0, 1));
        Due.notNow(() -> twenty(20), "the 21st", x -> x.lend(1, BANK, 1, 0, 1));
        Due.outOfRange(() -> twenty(20), "the 21st, of 0", x -> x.lend(1, BANK, 0, 0, 1));
        Due.noSuch(() -> twenty(20), "the loan 20", x -> x.ofLoan(20, 0));
    }

    private static void promise22Repay() {
        FreePort port = lent();
        port.sell(1, 20, OTHER, 0);
        port.pass(3);
        Due.is("repay(0)", 2000 + 30, port.repay(0));
        Due.is("the borrower pays", 900 + 2000 - 2030, port.ofParty(HOUSE, 0));
        Due.is("the lender has it", 5000 + 30, port.ofParty(BANK, 0));
        loanIs(port, "gone", 0, HOUSE, BANK, 0, 10, 0, 1);
        Due.is("no lot has it", -1, port.ofLot(1, 3));
        Due.is("no lot has it", -1, port.ofLot(2, 3));
        Due.is("nothing is owed", 0, port.ofParty(HOUSE, 2));
        Due.is("nothing is owed", 0, port.ofParty(BANK, 3));
        Due.is("its sale stays", 0, port.ofLot(1, 6));
        Due.is("its holder stays", OTHER, port.ofLot(2, 1));
        Due.is("lent on anew", 1, port.lend(2, BANK, 7, 0, 1));
        FreePort two = lent();
        two.work(HOUSE, 800);
        two.lend(2, BANK, 100, 0, 5);
        two.repay(0);
        Due.is("another loan stays", 1, two.ofLot(2, 3));
        Due.is("another loan stays", 0, two.ofLoan(1, 5));
        FreePort late = lent();
        late.pass(30);
        Due.is("behind the day it is due", 2300, late.repay(0));
        FreePort assigned = lent();
        assigned.assign(0, OTHER, 0);
        assigned.fail(OTHER);
        Due.is("to the lender then, though failed", 2000, assigned.repay(0));
        Due.is("to the lender then", 4000, assigned.ofParty(OTHER, 0));
        Due.is("with all its money", 2000, poorer(0).repay(0));
        FreePort first = ofTheFirstLot();
        first.repay(0);
        Due.is("the first lot has it no more", -1, first.ofLot(0, 3));
    }

    /** The BANK lends the ARTIST, who holds the lot 0, of 60 parts of a work of 1000. */
    private static FreePort ofTheFirstLot() {
        FreePort port = new FreePort();
        port.party(0, 0);
        port.party(0, 0);
        port.party(500, 0);
        port.work(ARTIST, 1000);
        port.lend(0, BANK, 500, 0, 1);
        return port;
    }

    /** The HOUSE has the 2000 that it owes, or less by so much. */
    private static FreePort poorer(int less) {
        FreePort port = lent();
        port.work(OTHER, 0);
        port.sell(2, 60, HOUSE, 900 + less);
        return port;
    }

    private static void promise22Refusals() {
        Due.noSuch(LoansTest::lent, "repay(1)", x -> x.repay(1));
        Due.noSuch(LoansTest::lent, "repay(-1)", x -> x.repay(-1));
        Due.notNow(() -> Scenes.after(lent(), x -> x.repay(0)), "repay(0) again", x -> x.repay(0));
        Due.notNow(() -> Scenes.after(Scenes.after(lent(), x -> x.pass(11)), x -> x.seize(0)), "repay(0) seized",
            x -> x.repay(0));
        Due.notNow(() -> Scenes.after(lent(), x -> x.fail(HOUSE)), "the borrower has failed", x -> x.repay(0));
        Due.notNow(() -> poorer(1), "the borrower has less", x -> x.repay(0));
        Due.notNow(() -> Scenes.after(poorer(0), x -> x.pass(1)), "less than with a day's percent", x -> x.repay(0));
    }

    private static void promise23SeizeWhenDue() {
        FreePort port = lent();
        port.pass(10);
        Due.is("on the day it is due", 0, port.ofLoan(0, 4));
        Due.notNow(() -> Scenes.after(lent(), x -> x.pass(10)), "seize on the day it is due", x -> x.seize(0));
        port.pass(1);
        Due.is("behind it", 1, port.ofLoan(0, 4));
        Due.is("seize(0)", 1, port.seize(0));
        Due.is("the lender's", BANK, port.ofLot(1, 1));
        loanIs(port, "gone", 0, HOUSE, BANK, 0, 10, 0, 1);
        Due.is("no money goes", 5000 - 2000, port.ofParty(BANK, 0));
        Due.is("no money goes", 900 + 2000, port.ofParty(HOUSE, 0));
    }

    private static void promise23SeizeByMargin() {
        FreePort port = lent();
        port.value(0, 2858);
        Due.is("20000 is not more than 20006", 0, port.ofLoan(0, 4));
        port.value(0, 2857);
        Due.is("20000 is more than 19999", 1, port.ofLoan(0, 4));
        Due.is("seize(0)", 1, port.seize(0));
        FreePort even = held();
        even.lend(1, BANK, 700, 0, 10);
        even.value(0, 1000);
        Due.is("7000 is not more than 7000", 0, even.ofLoan(0, 4));
        even.value(0, 999);
        Due.is("7000 is more than 6993", 1, even.ofLoan(0, 4));
        Due.is("the first lot counts", 0, ofTheFirstLot().ofLoan(0, 4));
        Due.notNow(LoansTest::ofTheFirstLot, "the first lot counts", x -> x.seize(0));
        FreePort spread = held();
        spread.lend(1, BANK, 700, 0, 10);
        spread.sell(1, 30, OTHER, 0);
        spread.sell(2, 7, ARTIST, 0);
        spread.value(0, 1001);
        Due.is("500 and 383 and 116 together", 999, spread.ofLot(1, 7) + spread.ofLot(2, 7) + spread.ofLot(3, 7));
        Due.is("7000 is more than 6993", 1, spread.ofLoan(0, 4));
        spread.value(0, 1002);
        Due.is("7000 is not more than 7000", 0, spread.ofLoan(0, 4));
        spread.weight(BANK, 3);
        spread.word(BANK, 0, false);
        Due.is("a tenth of the value", 1, spread.ofLoan(0, 4));
    }

    private static void promise23WhatTheSeizedLotsAre() {
        FreePort port = lent();
        port.sell(1, 30, OTHER, 10);
        port.sell(2, 30, ARTIST, 10);
        port.consign(3, OTHER, 0, 0, 1000);
        port.work(HOUSE, 60);
        port.pass(11);
        Due.is("its chain", 3, port.ofLot(3, 8));
        Due.is("those of 0 parts too", 3, port.seize(0));
        for (int lot = 1; lot <= 3; lot++) {
            Due.is("the lender's", BANK, port.ofLot(lot, 1));
            Due.is("no loan", -1, port.ofLot(lot, 3));
            Due.is("no dealer", -1, port.ofLot(lot, 4));
            Due.is("where it came from", lot - 1, port.ofLot(lot, 5));
            Due.is("by no sale", -1, port.ofLot(lot, 6));
            Due.is("no chain", 0, port.ofLot(lot, 8));
            Due.is("no price", -1, port.price(lot, HOUSE));
        }
        Due.is("the lot that had it not", ARTIST, port.ofLot(0, 1));
        Due.is("another work's", HOUSE, port.ofLot(4, 1));
        Due.is("no index", -1, port.index());
        FreePort from = held();
        from.lend(1, BANK, 3000, 0, 1);
        from.sell(1, 10, OTHER, 30);
        from.repay(0);
        from.lend(1, BANK, 2000, 0, 1);
        from.sell(2, 5, ARTIST, 45);
        Due.is("1000 * 30 * 60 / (100 * 10) and 1000 * 45 * 10 / (30 * 5)", 2400, from.index());
        Due.is("its chain", 3, from.ofLot(3, 8));
        from.pass(2);
        from.seize(1);
        Due.is("the chain of what came from it", 2, from.ofLot(3, 8));
        Due.is("the chain of what came from it", 1, from.ofLot(2, 8));
        Due.is("the index of what came from it", 3000, from.index());
    }

    private static void promise23Refusals() {
        Supplier<FreePort> late = () -> Scenes.after(lent(), x -> x.pass(11));
        Due.noSuch(late, "seize(1)", x -> x.seize(1));
        Due.noSuch(late, "seize(-1)", x -> x.seize(-1));
        Due.notNow(LoansTest::lent, "it cannot be seized", x -> x.seize(0));
        Due.notNow(() -> Scenes.after(late.get(), x -> x.seize(0)), "gone", x -> x.seize(0));
        Due.notNow(() -> Scenes.after(lent(), x -> {
            x.repay(0);
            x.pass(11);
        }), "paid back", x -> x.seize(0));
        Due.notNow(() -> Scenes.after(late.get(), x -> x.fail(BANK)), "the lender has failed", x -> x.seize(0));
        Due.is("the borrower may have failed", 1, Scenes.after(late.get(), x -> x.fail(HOUSE)).seize(0));
    }

    private static void promise24Assign() {
        FreePort port = lent();
        port.pass(4);
        Due.is("assign(0, OTHER, 1500)", BANK, port.assign(0, OTHER, 1500));
        loanIs(port, "the loan", 0, HOUSE, OTHER, 2000 + 40, 10, 0, 0);
        Due.is("the party pays", 500, port.ofParty(OTHER, 0));
        Due.is("the lender before has it", 3000 + 1500, port.ofParty(BANK, 0));
        Due.is("owed to it", 2040, port.ofParty(OTHER, 3));
        Due.is("owed to the other no more", 0, port.ofParty(BANK, 3));
        Due.is("back, for all its money", OTHER, port.assign(0, BANK, 4500));
        Due.is("it has none", 0, port.ofParty(BANK, 0));
        port.assign(0, ARTIST, 0);
        port.pass(20);
        Due.is("seized by the one who is the lender then", 1, port.seize(0));
        Due.is("his", ARTIST, port.ofLot(1, 1));
        Due.is("a failed borrower", BANK, Scenes.after(lent(), x -> x.fail(HOUSE)).assign(0, OTHER, 0));
    }

    private static void promise24Refusals() {
        Supplier<FreePort> made = LoansTest::lent;
        Due.noSuch(made, "assign(1, 3, 0)", x -> x.assign(1, 3, 0));
        Due.noSuch(made, "assign(-1, 3, -1)", x -> x.assign(-1, 3, -1));
        Due.noSuch(made, "assign(0, 4, -1)", x -> x.assign(0, 4, -1));
        Due.noSuch(made, "assign(0, -1, 0)", x -> x.assign(0, -1, 0));
        Due.outOfRange(made, "price -1", x -> x.assign(0, OTHER, -1));
        Due.outOfRange(made, "price 1000001", x -> x.assign(0, OTHER, 1000001));
        Due.outOfRange(made, "to the lender", x -> x.assign(0, BANK, 0));
        Due.outOfRange(made, "to the borrower", x -> x.assign(0, HOUSE, 0));
        Due.notNow(made, "the party has less", x -> x.assign(0, OTHER, 2001));
        Due.notNow(made, "1000000 is in the range", x -> x.assign(0, OTHER, 1000000));
        Supplier<FreePort> gone = () -> Scenes.after(lent(), x -> x.repay(0));
        Due.notNow(gone, "gone", x -> x.assign(0, OTHER, 0));
        Due.outOfRange(gone, "gone, to the lender", x -> x.assign(0, BANK, 0));
        Due.outOfRange(gone, "gone, to the borrower", x -> x.assign(0, HOUSE, 0));
        Due.notNow(() -> Scenes.after(lent(), x -> x.fail(BANK)), "the lender has failed", x -> x.assign(0, OTHER, 0));
        Due.notNow(() -> Scenes.after(lent(), x -> x.fail(OTHER)), "the party has failed", x -> x.assign(0, OTHER, 0));
    }
}
