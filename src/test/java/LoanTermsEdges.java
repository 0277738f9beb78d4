import java.util.List;
import java.util.function.Supplier;

/** The sentences of the terms on bars, loans, looted works, chains, the index and failing, on both sides. */
final class LoanTermsEdges {
    private static final int ARTIST = Scenes.ARTIST, FIRST = Scenes.FIRST, SECOND = Scenes.SECOND, THIRD = Scenes.THIRD;

    private LoanTermsEdges() {
    }

    static void run() {
        barsAndSeals();
        loans();
        owed();
        lien();
        gone();
        ofTheFirstLot();
        margin();
        seized();
        looted();
        chains();
        chainsBehindNone();
        index();
        indexWithoutSuchLots();
        failing();
        failedCannot();
        failedStillCan();
    }

    private static void barsAndSeals() {
        Doc.leavesFree("Terms", "\nBars, seals\n");
        Doc.terms("A work has an export bar for some days from today on: it is over, as they have passed.");
        for (int days : new int[] {1, 2, 1000}) {
            Supplier<FreePort> barred = Scenes.after(Scenes.passed(Scenes::sold, 3), x -> x.bar(0, days));
            Due.is("from today on", FreePort.BARRED, barred.get().bars(1, 1, SECOND, 0));
            if (days > 1) {
                FreePort last = Scenes.passed(barred, days - 1).get();
                Due.is("on its last day", FreePort.BARRED, last.bars(1, 1, SECOND, 0));
                Due.is("a day is left", 1, last.ofWork(0, 3));
            }
            FreePort over = Scenes.passed(barred, days).get();
            Due.is("as they have passed", 0, over.bars(1, 1, SECOND, 0));
            Due.is("none is left", 0, over.ofWork(0, 3));
            Due.is("none is left later", 0, Scenes.passed(barred, days + 1).get().ofWork(0, 3));
        }
        Doc.terms("It can be sealed in the land 0 alone.");
        Due.is("in the land 0", false, Scenes.sold().seal(0, true));
        for (int land = 1; land < 4; land++) {
            int away = land;
            Due.notNow(Scenes.after(Scenes::sold, x -> x.bring(0, away)), "in the land " + land, x -> x.seal(0, true));
        }
        Doc.terms("A work that is sealed is not brought to another land, one that has a bar neither.");
        Supplier<FreePort> sealed = Scenes.after(Scenes::sold, x -> x.seal(0, true));
        Supplier<FreePort> barred = Scenes.after(Scenes::sold, x -> x.bar(0, 1));
        Due.notNow(sealed, "sealed, to another", x -> x.bring(0, 1));
        Due.taken(sealed, "sealed, to the same", x -> x.bring(0, 0));
        Due.taken(Scenes.after(sealed, x -> x.seal(0, false)), "opened, to another", x -> x.bring(0, 1));
        Due.notNow(barred, "a bar, to another", x -> x.bring(0, 1));
        Due.taken(barred, "a bar, to the same", x -> x.bring(0, 0));
        Due.taken(Scenes.passed(barred, 1), "a bar that is over, to another", x -> x.bring(0, 1));
        Due.taken(Scenes.after(barred, x -> x.bar(0, 0)), "a bar that was taken off", x -> x.bring(0, 1));
    }

    private static void loans() {
        Doc.terms("Loans are numbered from 0, at most 20:");
        FreePort port = Scenes.sold();
        for (int loan = 0; loan < 20; loan++) {
            Due.is("its number", loan, port.lend(1, SECOND, 1, 0, 1));
            port.repay(loan);
        }
        Due.same("another", "IllegalStateException", Due.thrownBy(port, x -> x.lend(1, SECOND, 1, 0, 1)));
        Due.is("the twentieth is there", FIRST, port.ofLoan(19, 0));
        Due.same("one more is not", "IndexOutOfBoundsException", Due.thrownBy(port, x -> x.ofLoan(20, 0)));
        Doc.terms("a loan has a borrower, who held the lot as it was made, a lender, an amount, that goes from the "
            + "lender to the borrower, a percent, its day, and the day it is due.");
        FreePort lent = Scenes.passed(Scenes::sold, 4).get();
        lent.lend(1, SECOND, 200, 50, 10);
        Due.is("the borrower has it", 9200, lent.ofParty(FIRST, 0));
        Due.is("the lender has not", 9800, lent.ofParty(SECOND, 0));
        lent.sell(1, 40, THIRD, 0);
        int[] due = {FIRST, SECOND, 200, 14, 0, 0};
        for (int what = 0; what <= 5; what++) {
            Due.is("ofLoan(0, " + what + ")", due[what], lent.ofLoan(0, what));
        }
        lent.pass(1);
        Due.is("its percent of a day", 201, lent.ofLoan(0, 2));
    }

    private static void owed() {
        Doc.terms("What is owed by it is the amount, and the amount times the percent times the days gone since its "
            + "day, divided by 10000.");
        int[][] loans = {
            {1, 100, 99, 1}, {1, 100, 100, 2}, {3, 1, 3333, 3}, {3, 1, 3334, 4}, {200, 50, 0, 200}, {200, 0, 999, 200},
            {7, 13, 109, 7}, {7, 13, 110, 8}, {500000, 100, 20000, 100500000}, {500000, 99, 19999, 99495050},
        };
        for (int[] row : loans) {
            FreePort port = Scenes.passed(Scenes::rich, Math.min(3, 20000 - row[2])).get();
            port.lend(1, SECOND, row[0], row[1], 1000);
            Scenes.pass(port, row[2]);
            String name = row[0] + " at " + row[1] + " percent for " + row[2] + " days";
            Due.is(name, row[3], port.ofLoan(0, 2));
            Due.is(name + ": the borrower", row[3], port.ofParty(FIRST, 2));
            Due.is(name + ": the lender", row[3], port.ofParty(SECOND, 3));
            if (row[3] < 1000000) {
                Due.is(name + ": repay", row[3], port.repay(0));
            }
        }
    }

    private static void lien() {
        Doc.terms("It is a lien on the lot; so lots that have a LOAN are those of the same one, whoever holds them.");
        FreePort port = Scenes.lent();
        port.sell(1, 30, THIRD, 0);
        port.sell(2, 10, ARTIST, 0);
        for (int lot = 1; lot <= 3; lot++) {
            Due.is("lot " + lot, 0, port.ofLot(lot, 3));
        }
        Due.is("the lot from which it came has none", FreePort.NONE, port.ofLot(0, 3));
        port.lend(0, THIRD, 5, 0, 1);
        port.sell(0, 1, SECOND, 0);
        Due.is("of another loan", 1, port.ofLot(4, 3));
        port.consign(3, THIRD, 0, 0, 0);
        port.deal(3, SECOND, 0);
        Due.is("dealt to the lender", 0, port.ofLot(5, 3));
        Due.is("the borrower stays", FIRST, port.ofLoan(0, 0));
    }

    private static void gone() {
        Doc.terms("A loan is paid back by its borrower, or seized by its lender, and is gone then: no lot has it "
            + "any more.");
        FreePort paid = Scenes.lent();
        paid.sell(1, 30, THIRD, 0);
        paid.repay(0);
        FreePort taken = Scenes.passed(Scenes::lent, 11).get();
        taken.sell(1, 30, THIRD, 0);
        taken.seize(0);
        FreePort[] both = {paid, taken};
        for (FreePort port : both) {
            Due.is("gone", 1, port.ofLoan(0, 5));
            Due.is("nothing is owed", 0, port.ofLoan(0, 2));
            Due.is("it cannot be seized", 0, port.ofLoan(0, 4));
            Due.is("lot 1", FreePort.NONE, port.ofLot(1, 3));
            Due.is("lot 2", FreePort.NONE, port.ofLot(2, 3));
            Due.is("nor one that comes from it", 3, port.sell(1, 1, ARTIST, 0));
            Due.is("lot 3", FreePort.NONE, port.ofLot(3, 3));
        }
        Due.is("by its borrower", 9200 - 200, paid.ofParty(FIRST, 0));
        Due.is("to its lender", 9800 + 200, paid.ofParty(SECOND, 0));
    }

    /** The lot 0, that no SALE made, is pledged, let go and seized as any other one. */
    private static void ofTheFirstLot() {
        Supplier<FreePort> first = Scenes.after(Scenes::fresh, x -> x.lend(0, SECOND, 300, 0, 10));
        Due.is("it has the loan", 0, first.get().ofLot(0, 3));
        Due.is("its WORTH counts", 0, first.get().ofLoan(0, 4));
        Due.notNow(first, "its WORTH counts", x -> x.seize(0));
        Due.is("paid back", FreePort.NONE, Scenes.after(first, x -> x.repay(0)).get().ofLot(0, 3));
        FreePort taken = Scenes.passed(first, 11).get();
        Due.is("how many had it", 1, taken.seize(0));
        Due.is("it has no loan", FreePort.NONE, taken.ofLot(0, 3));
        Due.is("it is the lender's", SECOND, taken.ofLot(0, 1));
        Due.is("its WORTH too", 600, taken.ofParty(SECOND, 4));
    }

    /** On day 10 FIRST owes 210; ten times that is seven times 300. */
    private static void margin() {
        Doc.terms("A loan can be seized, if today is behind the day it is due, or if ten times what is owed by it "
            + "is more than seven times the WORTH of all lots that have it, together.");
        Due.notNow(Scenes.passed(Scenes::lent, 10), "on the day it is due", x -> x.seize(0));
        Due.taken(Scenes.passed(Scenes::lent, 11), "a day behind it", x -> x.seize(0));
        Supplier<FreePort> split = Scenes.passed(Scenes.after(Scenes::lent, x -> {
            x.sell(1, 20, THIRD, 0);
            x.sell(2, 10, ARTIST, 0);
        }), 10);
        Supplier<FreePort> whole = Scenes.passed(Scenes::lent, 10);
        for (Supplier<FreePort> made : List.of(whole, split)) {
            Supplier<FreePort> even = Scenes.after(made, x -> x.value(0, 450));
            Due.is("2100 of 2100", 0, even.get().ofLoan(0, 4));
            Due.notNow(even, "2100 of 2100", x -> x.seize(0));
            Supplier<FreePort> less = Scenes.after(made, x -> x.value(0, 449));
            Due.is("2100 of less", 1, less.get().ofLoan(0, 4));
            Due.taken(less, "2100 of less", x -> x.seize(0));
        }
        Supplier<FreePort> rounded = Scenes.after(split, x -> x.value(0, 453));
        FreePort worths = rounded.get();
        Due.is("each WORTH by itself", 151 + 75 + 75, worths.ofLot(1, 7) + worths.ofLot(2, 7) + worths.ofLot(3, 7));
        Due.is("2100 of 2107", 0, worths.ofLoan(0, 4));
        Supplier<FreePort> uneven = Scenes.after(whole, x -> {
            x.sell(1, 11, THIRD, 0);
            x.value(0, 450);
        });
        Due.is("2100 of seven times 217 and 82, not 300", 1, uneven.get().ofLoan(0, 4));
        Supplier<FreePort> other = Scenes.after(Scenes.after(whole, x -> x.value(0, 449)), x -> {
            x.work(FIRST, 1000000);
            x.lend(2, SECOND, 1, 0, 1);
        });
        Due.taken(other, "lots of another loan do not count", x -> x.seize(0));
        Supplier<FreePort> zero = Scenes.after(Scenes::lent, x -> x.value(0, 0));
        Due.taken(zero, "worth nothing, on its day", x -> x.seize(0));
        Supplier<FreePort> doubted = Scenes.after(Scenes::lent, x -> {
            x.value(0, 4490);
            x.weight(THIRD, 1);
            x.word(THIRD, 0, false);
        });
        Due.notNow(doubted, "2000 of seven times 299", x -> x.seize(0));
        Due.taken(Scenes.passed(doubted, 10), "2100 of seven times 299", x -> x.seize(0));
        Supplier<FreePort> great =
            Scenes.passed(Scenes.after(Scenes::rich, x -> x.lend(1, SECOND, 500000, 100, 1000)), 1000);
        Due.is("owed 5500000, worth 1000000, on the day it is due", 1, great.get().ofLoan(0, 4));
        Due.taken(great, "it can be seized", x -> x.seize(0));
    }

    private static void seized() {
        Doc.terms("All lots that have it, those with 0 PARTS too, are the lender's then: their HOLDER is the "
            + "lender, they have no DEALER, and are taken to have come by no SALE, also by the chains and the "
            + "index of lots that came from them.");
        FreePort port = Scenes.lent();
        port.sell(1, 40, THIRD, 1000);
        port.sell(2, 10, ARTIST, 500);
        port.consign(2, FIRST, 0, 0, 90);
        port.pass(5);
        Due.is("index ahead", (1000 + 2000) / 2, port.index());
        Due.is("chain ahead", 3, port.ofLot(3, 8));
        port.pass(6);
        Due.is("seize(0)", 3, port.seize(0));
        int[] parts = {20, 0, 30, 10};
        for (int lot = 1; lot <= 3; lot++) {
            int[] due = {0, SECOND, parts[lot], FreePort.NONE, FreePort.NONE, lot - 1, FreePort.NONE};
            for (int what = 0; what < due.length; what++) {
                Due.is("ofLot(" + lot + ", " + what + ")", due[what], port.ofLot(lot, what));
            }
            Due.is("its chain", 0, port.ofLot(lot, 8));
            Due.is("its price", FreePort.NONE, port.price(lot, FIRST));
        }
        Due.is("a lot without it", ARTIST, port.ofLot(0, 1));
        Due.is("the index", FreePort.NONE, port.index());
        Due.is("FIRST was the DEALER of none any more", 0, port.fail(FIRST));
        FreePort from = Scenes.sold();
        from.sell(1, 10, THIRD, 1000);
        from.sell(2, 5, ARTIST, 1000);
        from.lend(1, SECOND, 100, 0, 1);
        Due.is("index ahead", (4000 + 2000) / 2, from.index());
        from.pass(2);
        from.seize(0);
        Due.is("the chain of a lot that came from it", 1, from.ofLot(2, 8));
        Due.is("of one that came from that", 2, from.ofLot(3, 8));
        Due.is("the index of what came from it", 2000, from.index());
        Due.is("its own day stays", 0, from.ofLot(2, 6));
        Due.is("its price stays", 1000, from.price(2, THIRD));
    }

    private static void looted() {
        Doc.terms("A work can be listed as looted, from that day on.");
        FreePort listed = Scenes.passed(Scenes::sold, 2).get();
        listed.list(0);
        listed.pass(1);
        Due.is("the day", 2, listed.ofWork(0, 4));
        Doc.terms("A lot of a work that is listed is given back to an heir, if it came by a SALE on that day or "
            + "later:");
        int[][] days = {{1, 0, 0}, {0, 0, 1}, {0, 1, 1}, {0, 900, 1}};
        for (int[] row : days) {
            Supplier<FreePort> made = Scenes.after(Scenes.passed(Scenes::fresh, 5), x -> {
                if (row[0] == 1) {
                    x.sell(0, 1, FIRST, 0);
                    x.pass(1);
                    x.list(0);
                } else {
                    x.list(0);
                    Scenes.pass(x, row[1]);
                    x.sell(0, 1, FIRST, 0);
                }
            });
            if (row[2] == 1) {
                Due.taken(made, row[1] + " days behind it", x -> x.restore(1, THIRD));
            } else {
                Due.notNow(made, "a day ahead of it", x -> x.restore(1, THIRD));
            }
        }
        Doc.terms("its HOLDER is the heir then, without a DEALER, and it is taken to have come by no SALE; its LOAN "
            + "stays.");
        FreePort port = Scenes.looted();
        port.sell(2, 4, ARTIST, 60);
        port.lend(2, FIRST, 5, 0, 9);
        port.consign(2, THIRD, 0, 0, 9);
        Due.is("index ahead", (200 + 3000) / 2, port.index());
        Due.is("who held it", SECOND, port.restore(2, THIRD));
        int[] due = {0, THIRD, 6, 0, FreePort.NONE, 1, FreePort.NONE, 60, 0};
        for (int what = 0; what < due.length; what++) {
            Due.is("ofLot(2, " + what + ")", due[what], port.ofLot(2, what));
        }
        Due.is("its price", FreePort.NONE, port.price(2, SECOND));
        Due.is("the borrower stays", SECOND, port.ofLoan(0, 0));
        Due.is("the chain of what came from it", 1, port.ofLot(3, 8));
        Due.is("the index of what came from it", FreePort.NONE, port.index());
    }

    private static void chains() {
        Doc.leavesFree("Terms", "\nChains, the index\n");
        Doc.terms("The chain of a lot is the number of SALES, one behind the other, by which it came to its HOLDER: "
            + "0 if it came by none; otherwise 1, and as many as the chain of the lot from which it came, if that "
            + "came by a SALE at most 7 days ahead of its own.");
        Due.is("by none", 0, Scenes.sold().ofLot(0, 8));
        Due.is("by one, from a lot by none", 1, Scenes.sold().ofLot(1, 8));
        int[][] days = {{0, 2}, {1, 2}, {6, 2}, {7, 2}, {8, 1}, {1000, 1}};
        for (int[] row : days) {
            for (int begun : new int[] {0, 2}) {
                FreePort port = Scenes.passed(Scenes::fresh, begun).get();
                port.sell(0, 40, FIRST, 0);
                Scenes.pass(port, row[0]);
                port.sell(1, 40, SECOND, 0);
                Due.is(row[0] + " days", row[1], port.ofLot(2, 8));
                port.pass(7);
                port.sell(2, 40, THIRD, 0);
                Due.is(row[0] + " days, and 7", row[1] + 1, port.ofLot(3, 8));
                port.pass(8);
                port.sell(3, 40, FIRST, 0);
                Due.is("and 8", 1, port.ofLot(4, 8));
                Due.is("that of the lot ahead stays", row[1] + 1, port.ofLot(3, 8));
            }
        }
        FreePort longest = Scenes.fresh();
        for (int lot = 0; lot < 59; lot++) {
            longest.sell(lot, 60, lot % 2 == 0 ? FIRST : SECOND, 0);
        }
        for (int lot = 0; lot < 60; lot++) {
            Due.is("chain of " + lot, lot, longest.ofLot(lot, 8));
        }
    }

    private static void chainsBehindNone() {
        FreePort port = Scenes.looted();
        port.sell(2, 5, ARTIST, 0);
        port.sell(3, 4, SECOND, 0);
        Due.is("four", 4, port.ofLot(4, 8));
        port.restore(3, THIRD);
        Due.is("the one ahead came by none", 1, port.ofLot(4, 8));
        Due.is("it itself", 0, port.ofLot(3, 8));
        Due.is("the one ahead of that", 2, port.ofLot(2, 8));
    }

    private static void index() {
        Doc.terms("The index is, over all lots that came by a SALE from a lot that came by a SALE (each with prices "
            + "above 0), the sum of 1000 times the price times the PARTS of that SALE ahead, divided by (the "
            + "price of the SALE ahead times the PARTS of this SALE), each by itself, divided by how many there "
            + "are.");
        int[][] prices = {{1, 1, 60000}, {1, 0, -1}, {0, 1, -1}, {0, 0, -1}, {3, 1, 20000}, {10000, 1, 6}};
        for (int[] row : prices) {
            FreePort port = Scenes.fresh();
            port.sell(0, 60, FIRST, row[0]);
            port.sell(1, 1, SECOND, row[1]);
            Due.is("1000 * " + row[1] + " * 60 / (" + row[0] + " * 1)", row[2], port.index());
        }
        FreePort each = Scenes.fresh();
        each.sell(0, 60, FIRST, 3);
        each.sell(1, 7, SECOND, 1);
        each.sell(1, 7, THIRD, 1);
        Due.is("2857 and 2857, not 5714.3", 2857, each.index());
        each.sell(1, 11, THIRD, 1);
        Due.is("2857 and 2857 and 1818, by three", (2857 + 2857 + 1818) / 3, each.index());
        each.sell(1, 35, THIRD, 0);
        Due.is("one of a price of 0 is not counted", (2857 + 2857 + 1818) / 3, each.index());
        each.sell(2, 7, ARTIST, 2);
        Due.is("and 2000", (2857 + 2857 + 1818 + 2000) / 4, each.index());
        FreePort greatest = Scenes.rich();
        greatest.work(ARTIST, 0);
        greatest.sell(2, 60, SECOND, 1);
        greatest.sell(3, 1, THIRD, 1000000);
        Due.is("the greatest", 60000000000L, greatest.index());
        greatest.sell(3, 1, FIRST, 1000000);
        Due.is("twice", 60000000000L, greatest.index());
        Doc.terms("PARTS of a SALE are those that went by it.");
        FreePort went = Scenes.fresh();
        went.sell(0, 40, FIRST, 1000);
        went.sell(1, 10, SECOND, 1000);
        went.sell(1, 10, SECOND, 1000);
        Due.is("40 went, though 20 are left", 4000, went.index());
        went.sell(2, 10, THIRD, 1000);
        Due.is("10 went, though 0 are left", (4000 + 4000 + 1000) / 3, went.index());
    }

    private static void indexWithoutSuchLots() {
        Due.is("no lots", FreePort.NONE, new FreePort().index());
        Due.is("a lot by none", FreePort.NONE, Scenes.fresh().index());
        Due.is("from a lot by none", FreePort.NONE, Scenes.sold().index());
    }

    private static void failing() {
        Doc.terms("A party that fails has FAILED for good: lots of which it is the DEALER have none any more.");
        FreePort port = Scenes.sold();
        port.consign(0, SECOND, 0, 0, 9);
        port.consign(1, SECOND, 0, 0, 9);
        port.work(FIRST, 0);
        port.consign(2, THIRD, 0, 0, 9);
        Due.is("of two", 2, port.fail(SECOND));
        Due.is("none", FreePort.NONE, port.ofLot(0, 4));
        Due.is("none", FreePort.NONE, port.ofLot(1, 4));
        Due.is("another's", THIRD, port.ofLot(2, 4));
        Scenes.pass(port, 3000);
        Due.is("for good", 1, port.ofParty(SECOND, 5));
        Due.same("not twice", "IllegalStateException", Due.thrownBy(port, x -> x.fail(SECOND)));
        Doc.terms("who holds lots, or owes, stays as it is.");
        FreePort stays = Scenes.lent();
        stays.consign(1, THIRD, 0, 0, 9);
        stays.fail(FIRST);
        Due.is("its lot", FIRST, stays.ofLot(1, 1));
        Due.is("its PARTS", 40, stays.ofParty(FIRST, 1));
        Due.is("its MONEY", 9200, stays.ofParty(FIRST, 0));
        Due.is("what it owes", 200, stays.ofParty(FIRST, 2));
        Due.is("the borrower", FIRST, stays.ofLoan(0, 0));
        Due.is("the DEALER of its lot", THIRD, stays.ofLot(1, 4));
        stays.fail(SECOND);
        Due.is("the lender", SECOND, stays.ofLoan(0, 1));
        Due.is("what is owed to it", 200, stays.ofParty(SECOND, 3));
    }

    private static void failedCannot() {
        Doc.terms("It cannot sell, buy, deal, be a DEALER, lend, borrow, pay back, seize, or be an heir;");
        Supplier<FreePort> first = Scenes.after(Scenes::sold, x -> x.fail(FIRST));
        Supplier<FreePort> third = Scenes.after(Scenes::sold, x -> x.fail(THIRD));
        Due.notNow(first, "sell", x -> x.sell(1, 1, SECOND, 0));
        Due.notNow(first, "consign", x -> x.consign(1, SECOND, 0, 0, 0));
        Due.notNow(first, "borrow", x -> x.lend(1, SECOND, 1, 0, 1));
        Due.notNow(third, "buy", x -> x.sell(1, 1, THIRD, 0));
        Due.notNow(third, "be a DEALER", x -> x.consign(1, THIRD, 0, 0, 0));
        Due.notNow(third, "lend", x -> x.lend(1, THIRD, 1, 0, 1));
        Due.notNow(Scenes.after(Scenes::consigned, x -> x.fail(SECOND)), "deal", x -> x.deal(1, THIRD, 500));
        Due.notNow(Scenes.after(Scenes::consigned, x -> x.fail(FIRST)), "be dealt for", x -> x.deal(1, THIRD, 500));
        Due.notNow(Scenes.after(Scenes::consigned, x -> x.fail(THIRD)), "buy of a DEALER", x -> x.deal(1, THIRD, 500));
        Due.notNow(Scenes.after(Scenes::lent, x -> x.fail(FIRST)), "pay back", x -> x.repay(0));
        Due.notNow(Scenes.after(Scenes.passed(Scenes::lent, 11), x -> x.fail(SECOND)), "seize", x -> x.seize(0));
        Due.notNow(Scenes.after(Scenes::lent, x -> x.fail(THIRD)), "be the lender", x -> x.assign(0, THIRD, 0));
        Due.notNow(Scenes.after(Scenes::looted, x -> x.fail(THIRD)), "be an heir", x -> x.restore(2, THIRD));
    }

    private static void failedStillCan() {
        Doc.terms("It can still be paid, and tell words and prices.");
        FreePort artist = Scenes.sold();
        artist.right(1, 10);
        artist.fail(ARTIST);
        artist.sell(1, 1, SECOND, 100);
        Due.is("paid as the artist", 11010, artist.ofParty(ARTIST, 0));
        Due.is("it still punishes", 1, artist.ofParty(FIRST, 6));
        FreePort lender = Scenes.after(Scenes::lent, x -> x.fail(SECOND)).get();
        Due.is("paid back", 200, lender.repay(0));
        Due.is("it has it", 10000, lender.ofParty(SECOND, 0));
        FreePort expert = Scenes.sold();
        expert.weight(FIRST, 2);
        expert.fail(FIRST);
        Due.is("a word", 1, expert.word(FIRST, 0, false));
        Due.is("that counts", 2, expert.doubt(0, 0));
        Due.is("its weight is told", 2, expert.weight(FIRST, 3));
        Due.is("a price", false, expert.tell(1, FIRST, SECOND));
        Due.is("that is known", 1000, expert.price(1, SECOND));
        Due.is("it is told one", false, Scenes.after(Scenes::sold, x -> x.fail(SECOND)).get().tell(1, FIRST, SECOND));
    }
}
