import java.util.function.Supplier;

/** The sentences of the terms on sales, on both sides of each boundary. */
final class SaleTermsEdges {
    private static final int ARTIST = Scenes.ARTIST, FIRST = Scenes.FIRST, SECOND = Scenes.SECOND, THIRD = Scenes.THIRD;

    private SaleTermsEdges() {
    }

    static void run() {
        sale();
        failed();
        shortOrConsigned();
        barred();
        poor();
        punished();
        full();
        resaleRight();
        flips();
        flipsOfWhom();
        consigned();
        dealBarred();
        dealt();
        known();
    }

    private static void isBarred(String name, Supplier<FreePort> made, int[] offer, int by, int number) {
        Due.is(name + ": bars", by, made.get().bars(offer[0], offer[1], offer[2], offer[3]));
        Due.is(name + ": barredBy", number, made.get().barredBy(offer[0], offer[1], offer[2], offer[3]));
        if (by == 0) {
            Due.taken(made, name + ": sell", x -> x.sell(offer[0], offer[1], offer[2], offer[3]));
        } else {
            Due.notNow(made, name + ": sell", x -> x.sell(offer[0], offer[1], offer[2], offer[3]));
        }
    }

    private static int[] offer(int lot, int parts, int buyer, int price) {
        return new int[] {lot, parts, buyer, price};
    }

    private static void sale() {
        Doc.terms("The HOLDER of a lot can sell PARTS of it for a price to a buyer.");
        FreePort port = Scenes.sold();
        Due.is("to the artist again", 2, port.sell(1, 1, ARTIST, 3));
        Due.is("to one who holds none", 3, port.sell(1, 1, THIRD, 3));
        Due.is("all that is left", 4, port.sell(1, 38, SECOND, 3));
    }

    private static void failed() {
        Doc.terms("FAILED 1, the HOLDER or the buyer has FAILED;",
            "FAILED: the HOLDER, if that has FAILED, otherwise the buyer;");
        int[] offer = offer(1, 1, SECOND, 0);
        Supplier<FreePort> holder = Scenes.after(Scenes::sold, x -> x.fail(FIRST));
        Supplier<FreePort> buyer = Scenes.after(Scenes::sold, x -> x.fail(SECOND));
        Supplier<FreePort> others = Scenes.after(Scenes::sold, x -> x.fail(ARTIST));
        isBarred("the HOLDER", holder, offer, FreePort.FAILED, FIRST);
        isBarred("the buyer", buyer, offer, FreePort.FAILED, SECOND);
        isBarred("both", Scenes.after(buyer, x -> x.fail(FIRST)), offer, FreePort.FAILED, FIRST);
        isBarred("the artist, who holds it no more", others, offer, 0, FreePort.NONE);
        isBarred("none", Scenes::sold, offer, 0, FreePort.NONE);
    }

    private static void shortOrConsigned() {
        Doc.terms("SHORT 2, the lot has fewer PARTS;", "SHORT: how many PARTS are missing;");
        isBarred("as many", Scenes::sold, offer(1, 40, SECOND, 0), 0, FreePort.NONE);
        isBarred("1 less", Scenes::sold, offer(1, 41, SECOND, 0), FreePort.SHORT, 1);
        isBarred("20 less", Scenes::sold, offer(1, 60, SECOND, 0), FreePort.SHORT, 20);
        Supplier<FreePort> empty = Scenes.after(Scenes::sold, x -> x.sell(1, 40, THIRD, 0));
        isBarred("1 of none", empty, offer(1, 1, SECOND, 0), FreePort.SHORT, 1);
        isBarred("60 of none", empty, offer(1, 60, SECOND, 0), FreePort.SHORT, 60);
        Doc.terms("CONSIGNED 3, it has a DEALER;", "CONSIGNED: the DEALER;");
        int[] offer = offer(1, 1, THIRD, 0);
        isBarred("it has none", Scenes::sold, offer, 0, FreePort.NONE);
        isBarred("it has", Scenes::consigned, offer, FreePort.CONSIGNED, SECOND);
        isBarred("to the DEALER", Scenes::consigned, offer(1, 1, SECOND, 0), FreePort.CONSIGNED, SECOND);
        isBarred("behind the end", Scenes.passed(Scenes::consigned, 6), offer, FreePort.CONSIGNED, SECOND);
        isBarred("the DEALER failed", Scenes.after(Scenes::consigned, x -> x.fail(SECOND)), offer, 0, FreePort.NONE);
        isBarred("another lot has", Scenes::consigned, offer(0, 1, THIRD, 0), 0, FreePort.NONE);
        isBarred("the artist is it", Scenes.after(Scenes::sold, x -> x.consign(1, ARTIST, 0, 0, 0)), offer,
            FreePort.CONSIGNED, ARTIST);
    }

    private static void barred() {
        Doc.terms("BARRED 4, the work has an export bar, and the buyer is of another land than that in which the "
            + "work is;", "BARRED: the days that are left of the bar;");
        Supplier<FreePort> week = Scenes.after(Scenes::sold, x -> x.bar(0, 7));
        int[] offer = offer(1, 1, SECOND, 0);
        isBarred("no bar", Scenes::sold, offer, 0, FreePort.NONE);
        isBarred("7 days", week, offer, FreePort.BARRED, 7);
        isBarred("the last day", Scenes.passed(week, 6), offer, FreePort.BARRED, 1);
        isBarred("over", Scenes.passed(week, 7), offer, 0, FreePort.NONE);
        isBarred("to the land of the work", week, offer(1, 1, ARTIST, 0), 0, FreePort.NONE);
        Supplier<FreePort> abroad = Scenes.after(Scenes::sold, x -> {
            x.bring(0, 2);
            x.bar(0, 1000);
        });
        isBarred("to the land in which it is", abroad, offer, 0, FreePort.NONE);
        isBarred("to that of the artist", abroad, offer(1, 1, ARTIST, 0), FreePort.BARRED, 1000);
        isBarred("to a third one", abroad, offer(1, 1, THIRD, 0), FreePort.BARRED, 1000);
    }

    private static void poor() {
        Doc.terms("POOR 5, the buyer has less MONEY than the price;", "POOR: the MONEY that is missing;");
        isBarred("as much", Scenes::sold, offer(1, 1, SECOND, 10000), 0, FreePort.NONE);
        isBarred("1 less", Scenes::sold, offer(1, 1, SECOND, 10001), FreePort.POOR, 1);
        isBarred("the greatest price", Scenes::sold, offer(1, 1, SECOND, 1000000), FreePort.POOR, 990000);
        Supplier<FreePort> poor = Scenes.after(() -> Scenes.four(0), x -> x.work(ARTIST, 0));
        isBarred("0 of none", poor, offer(0, 1, FIRST, 0), 0, FreePort.NONE);
        isBarred("1 of none", poor, offer(0, 1, FIRST, 1), FreePort.POOR, 1);
        isBarred("all of none", poor, offer(0, 1, FIRST, 1000000), FreePort.POOR, 1000000);
        Supplier<FreePort> right = Scenes.after(Scenes::sold, x -> x.right(1, 20));
        isBarred("what the artist would get again does not count", right, offer(1, 1, ARTIST, 11001), FreePort.POOR, 1);
    }

    private static void punished() {
        Doc.terms("PUNISHED 6, the HOLDER is the artist of the work, and the artist punishes the buyer;",
            "PUNISHED: the artist;");
        isBarred("by the artist", Scenes::flipped, offer(0, 1, FIRST, 0), FreePort.PUNISHED, ARTIST);
        isBarred("another is not", Scenes::flipped, offer(0, 1, SECOND, 0), 0, FreePort.NONE);
        isBarred("by another HOLDER", Scenes::flipped, offer(2, 1, FIRST, 0), 0, FreePort.NONE);
        isBarred("not yet", Scenes::sold, offer(0, 1, FIRST, 0), 0, FreePort.NONE);
        Supplier<FreePort> others = Scenes.after(Scenes::flipped, x -> {
            x.work(THIRD, 0);
            x.sell(3, 9, ARTIST, 0);
            x.work(ARTIST, 0);
        });
        isBarred("by another artist", others, offer(3, 1, FIRST, 0), 0, FreePort.NONE);
        isBarred("by that artist, for another's work", others, offer(4, 1, FIRST, 0), 0, FreePort.NONE);
        isBarred("by that artist, for another work of it", others, offer(5, 1, FIRST, 0), FreePort.PUNISHED, ARTIST);
        Supplier<FreePort> second = () -> {
            FreePort port = Scenes.four(0);
            port.work(THIRD, 0);
            port.sell(0, 2, FIRST, 0);
            port.sell(1, 1, SECOND, 0);
            return port;
        };
        isBarred("the number of the artist", second, offer(0, 1, FIRST, 0), FreePort.PUNISHED, THIRD);
    }

    private static void full() {
        Doc.terms("FULL 7, there are 60 lots.", "FULL: 60.");
        isBarred("59", () -> Scenes.lots(59), offer(0, 2, SECOND, 0), 0, FreePort.NONE);
        isBarred("60", () -> Scenes.lots(60), offer(0, 1, SECOND, 0), FreePort.FULL, 60);
        isBarred("60, of the last one", () -> Scenes.lots(60), offer(59, 1, SECOND, 0), FreePort.FULL, 60);
    }

    private static void resaleRight() {
        Doc.terms("By a sale the buyer pays the price.", "The rest is the HOLDER's.",
            "If the HOLDER is not the artist, the price times the percent of the resale right of the HOLDER's land, "
            + "divided by 100, goes to the artist, whoever buys.");
        int[][] shares = {{0, 0}, {1, 9}, {20, 199}};
        for (int[] share : shares) {
            for (int buyer : new int[] {ARTIST, SECOND, THIRD}) {
                FreePort port = Scenes.sold();
                port.right(0, 20);
                port.right(1, share[0]);
                port.right(2, 20);
                port.right(3, 20);
                port.sell(1, 1, buyer, 999);
                int paid = buyer == ARTIST ? 999 : 0;
                Due.is("the artist has", 11000 + share[1] - paid, port.ofParty(ARTIST, 0));
                Due.is("the HOLDER has", 9000 + 999 - share[1], port.ofParty(FIRST, 0));
                Due.is("the buyer paid", buyer == ARTIST ? 10001 + share[1] : 9001, port.ofParty(buyer, 0));
            }
        }
        for (int land = 0; land < 4; land++) {
            FreePort port = Scenes.four(100);
            int artist = (land + 1) % 4;
            port.right(land, 20);
            port.work(artist, 0);
            port.sell(0, 1, land, 0);
            port.sell(1, 1, (land + 2) % 4, 100);
            Due.is("by a HOLDER of the land " + land, 120, port.ofParty(artist, 0));
        }
        FreePort own = Scenes.fresh();
        own.right(0, 20);
        own.right(1, 20);
        own.sell(0, 1, FIRST, 999);
        Due.is("the artist is the HOLDER", 10999, own.ofParty(ARTIST, 0));
        FreePort greatest = Scenes.rich();
        greatest.right(1, 20);
        greatest.sell(1, 1, SECOND, 1000000);
        Due.is("the greatest share", 1200000, greatest.ofParty(ARTIST, 0));
        Due.is("the greatest rest", 1800000, greatest.ofParty(FIRST, 0));
        Due.is("nothing is left", 0, greatest.ofParty(SECOND, 0));
        FreePort twice = Scenes.sold();
        twice.right(1, 20);
        twice.right(2, 10);
        twice.sell(1, 1, SECOND, 100);
        twice.sell(2, 1, THIRD, 100);
        Due.is("not to who sold it to the HOLDER", 9080, twice.ofParty(FIRST, 0));
        Due.is("by the land of each HOLDER", 11000 + 20 + 10, twice.ofParty(ARTIST, 0));
        Doc.terms("The PARTS go to the buyer by this SALE of today.");
        FreePort today = Scenes.passed(Scenes::sold, 9).get();
        today.sell(1, 7, SECOND, 5);
        Due.is("the buyer's", SECOND, today.ofLot(2, 1));
        Due.is("of today", 9, today.ofLot(2, 6));
        Due.is("the old lot's SALE stays", 0, today.ofLot(1, 6));
    }

    private static void flips() {
        Doc.terms("If the HOLDER is not the artist, and the lot came by a SALE from a lot that the artist held at "
            + "that SALE, at most 100 days ago, the artist punishes the HOLDER from now on.");
        int[][] days = {{0, 1}, {99, 1}, {100, 1}, {101, 0}, {1000, 0}};
        for (int[] row : days) {
            for (int begun : new int[] {0, 3}) {
                FreePort port = Scenes.passed(Scenes::fresh, begun).get();
                port.sell(0, 40, FIRST, 0);
                Scenes.pass(port, row[0]);
                Due.is("ahead of it", 0, port.ofParty(FIRST, 6));
                port.sell(1, 1, SECOND, 0);
                Due.is("after " + row[0] + " days", row[1], port.ofParty(FIRST, 6));
                Due.is("the buyer", 0, port.ofParty(SECOND, 6));
                Due.is("barred", row[1] == 1 ? FreePort.PUNISHED : 0, port.bars(0, 1, FIRST, 0));
            }
        }
        FreePort longAgo = Scenes.passed(Scenes::flipped, 20000).get();
        Due.is("from now on", FreePort.PUNISHED, longAgo.bars(0, 1, FIRST, 0));
        FreePort refused = Scenes.sold();
        Due.same("a sale that is barred", "IllegalStateException",
            Due.thrownBy(refused, x -> x.sell(1, 41, SECOND, 0)));
        Due.is("is no flip", 0, refused.ofParty(FIRST, 6));
    }

    private static void flipsOfWhom() {
        FreePort own = Scenes.fresh();
        own.sell(0, 1, FIRST, 0);
        Due.is("the artist of its first lot", 0, own.ofParty(ARTIST, 6));
        own.sell(1, 1, ARTIST, 0);
        own.sell(2, 1, SECOND, 0);
        Due.is("the artist of a lot that it bought", 0, own.ofParty(ARTIST, 6));
        own.sell(3, 1, THIRD, 0);
        Due.is("who bought that lot of the artist", 1, own.ofParty(SECOND, 6));
        FreePort third = Scenes.passed(Scenes::sold, 101).get();
        third.sell(1, 10, SECOND, 0);
        third.sell(2, 10, THIRD, 0);
        Due.is("came from another's lot", 0, third.ofParty(SECOND, 6));
        FreePort seized = Scenes.passed(Scenes::lent, 11).get();
        seized.seize(0);
        seized.sell(1, 1, THIRD, 0);
        Due.is("came by no SALE", 0, seized.ofParty(SECOND, 6));
        FreePort heir = Scenes.sold();
        heir.list(0);
        heir.restore(1, THIRD);
        heir.sell(1, 1, SECOND, 0);
        Due.is("given back", 0, heir.ofParty(THIRD, 6));
        FreePort emptied = Scenes.sold();
        emptied.lend(0, SECOND, 100, 0, 1);
        emptied.pass(2);
        emptied.seize(0);
        emptied.sell(1, 1, THIRD, 0);
        Due.is("the artist held that lot at that SALE, if not now", 1, emptied.ofParty(FIRST, 6));
        FreePort later = Scenes.passed(Scenes::sold, 101).get();
        later.sell(1, 20, SECOND, 0);
        later.lend(1, ARTIST, 100, 0, 1);
        later.pass(2);
        later.seize(0);
        Due.is("the artist holds it now", ARTIST, later.ofLot(1, 1));
        later.sell(2, 1, THIRD, 0);
        Due.is("but did not at that SALE", 0, later.ofParty(SECOND, 6));
    }

    private static void consigned() {
        Doc.terms("A lot can be consigned to a DEALER, with a floor, a percent, and an end, the day after so many "
            + "days.");
        FreePort port = Scenes.passed(Scenes::sold, 3).get();
        port.consign(1, SECOND, 70, 10, 4);
        Due.is("its DEALER", SECOND, port.ofLot(1, 4));
        Scenes.pass(port, 4);
        Due.same("below the floor", "IllegalStateException", Due.thrownBy(port, x -> x.deal(1, THIRD, 69)));
        Due.is("on the end, for the floor", 2, port.deal(1, THIRD, 70));
        Due.is("its percent", 10007, port.ofParty(SECOND, 0));
        Doc.terms("(It is not possible without a DEALER, below the floor, or behind the end.)");
        Due.notNow(Scenes::sold, "without a DEALER", x -> x.deal(1, THIRD, 500));
        Due.notNow(Scenes::consigned, "below the floor", x -> x.deal(1, THIRD, 499));
        Due.taken(Scenes::consigned, "for the floor", x -> x.deal(1, THIRD, 500));
        Due.taken(Scenes.passed(Scenes::consigned, 5), "on the end", x -> x.deal(1, THIRD, 500));
        Due.notNow(Scenes.passed(Scenes::consigned, 6), "behind the end", x -> x.deal(1, THIRD, 500));
        Due.taken(Scenes.after(Scenes::sold, x -> x.consign(1, SECOND, 0, 0, 0)), "for 0", x -> x.deal(1, THIRD, 0));
    }

    /** All bars of a deal together with all others: only without any it is not barred. */
    private static void dealBarred() {
        Doc.terms("The DEALER deals all PARTS of it to a buyer for a price: this is barred by the first of these: "
            + "FAILED, the DEALER, the HOLDER or the buyer has FAILED; BARRED, POOR, PUNISHED and FULL as above.");
        for (int which = 0; which < 128; which++) {
            int bars = which;
            Supplier<FreePort> made = () -> deal(bars);
            int price = (bars & 16) != 0 ? 10001 : 10000;
            if (which == 0) {
                Due.taken(made, "deal", x -> x.deal(0, FIRST, price));
            } else {
                Due.same("deal, barred by " + which, "IllegalStateException",
                    Due.thrownBy(made.get(), x -> x.deal(0, FIRST, price)));
            }
        }
        Due.notNow(() -> deal(127), "deal, barred by all", x -> x.deal(0, FIRST, 10001));
        for (int bars = 1; bars < 128; bars *= 2) {
            int one = bars;
            Due.notNow(() -> deal(one), "deal, barred by " + one, x -> x.deal(0, FIRST, one == 16 ? 10001 : 10000));
        }
        FreePort all = Scenes.consigned();
        all.deal(1, THIRD, 500);
        Due.is("all PARTS", 40, all.ofLot(2, 2));
        Due.is("none are left", 0, all.ofLot(1, 2));
    }

    private static FreePort deal(int bars) {
        FreePort port = Scenes.fresh();
        port.sell(0, 1, FIRST, 0);
        if ((bars & 32) != 0) {
            port.sell(1, 1, SECOND, 0);
        }
        int lots = (bars & 32) != 0 ? 3 : 2;
        while (lots < ((bars & 64) != 0 ? 60 : 59)) {
            port.sell(0, 1, SECOND, 0);
            lots++;
        }
        port.consign(0, THIRD, 0, 0, 1);
        port.bar(0, (bars & 8) != 0 ? 2 : 1);
        port.pass(1);
        int[] failing = {THIRD, ARTIST, FIRST};
        for (int i = 0; i < 3; i++) {
            if ((bars & (1 << i)) != 0) {
                port.fail(failing[i]);
            }
        }
        return port;
    }

    private static void dealt() {
        Doc.terms("The buyer pays the price; the price times the percent, divided by 100, is the DEALER's; the "
            + "artist gets as by a sale; the rest is the HOLDER's; flips are punished as by a sale.");
        int[][] percents = {{0, 0, 0, 0}, {50, 20, 499, 199}, {1, 0, 9, 0}, {0, 1, 0, 9}, {25, 10, 249, 99}};
        for (int[] row : percents) {
            FreePort port = Scenes.sold();
            port.right(1, row[1]);
            port.right(2, 3);
            port.consign(1, SECOND, 999, row[0], 0);
            port.deal(1, THIRD, 999);
            Due.is("the buyer", 10000 - 999, port.ofParty(THIRD, 0));
            Due.is("the DEALER", 10000 + row[2], port.ofParty(SECOND, 0));
            Due.is("the artist", 11000 + row[3], port.ofParty(ARTIST, 0));
            Due.is("the HOLDER", 9000 + 999 - row[2] - row[3], port.ofParty(FIRST, 0));
            Due.is("the HOLDER flipped", 1, port.ofParty(FIRST, 6));
            Due.is("the DEALER did not", 0, port.ofParty(SECOND, 6));
        }
        FreePort own = Scenes.fresh();
        own.right(0, 20);
        own.right(1, 20);
        own.consign(0, FIRST, 0, 50, 0);
        own.deal(0, SECOND, 999);
        Due.is("the artist is the HOLDER", 10500, own.ofParty(ARTIST, 0));
        FreePort artistDeals = Scenes.sold();
        artistDeals.right(1, 20);
        artistDeals.consign(1, ARTIST, 0, 50, 0);
        artistDeals.deal(1, ARTIST, 100);
        Due.is("the artist is the DEALER and the buyer", 11000 - 100 + 50 + 20, artistDeals.ofParty(ARTIST, 0));
        int[][] days = {{100, 1}, {101, 0}};
        for (int[] row : days) {
            FreePort port = Scenes.passed(Scenes::sold, row[0]).get();
            port.consign(1, SECOND, 0, 0, 0);
            port.deal(1, THIRD, 0);
            Due.is("after " + row[0] + " days", row[1], port.ofParty(FIRST, 6));
        }
        FreePort greatest = Scenes.rich();
        greatest.right(1, 20);
        greatest.consign(1, SECOND, 1000000, 50, 0);
        greatest.deal(1, THIRD, 1000000);
        Due.is("the greatest commission", 1500000, greatest.ofParty(SECOND, 0));
        Due.is("the greatest share", 1200000, greatest.ofParty(ARTIST, 0));
        Due.is("the rest", 1300000, greatest.ofParty(FIRST, 0));
        Doc.terms("The old lot has no DEALER then.");
        FreePort old = Scenes.consigned();
        old.deal(1, THIRD, 500);
        Due.is("none", FreePort.NONE, old.ofLot(1, 4));
        Due.is("the DEALER fails of no lot", 0, old.fail(SECOND));
    }

    private static void known() {
        Doc.terms("The price of a SALE is known to the buyer, and to the HOLDER, or, if it was dealt, to the DEALER "
            + "in place of the HOLDER; and to whom those tell it who know it.");
        FreePort port = Scenes.fresh();
        port.sell(0, 10, SECOND, 5);
        port.consign(0, THIRD, 0, 0, 0);
        port.deal(0, FIRST, 7);
        int[] sold = {5, FreePort.NONE, 5, FreePort.NONE};
        int[] dealt = {FreePort.NONE, 7, FreePort.NONE, 7};
        for (int party = 0; party < 4; party++) {
            Due.is("sold: party " + party, sold[party], port.price(1, party));
            Due.is("dealt: party " + party, dealt[party], port.price(2, party));
            Due.is("by none: party " + party, FreePort.NONE, port.price(0, party));
        }
        Due.same("the HOLDER that dealt it tells", "IllegalStateException",
            Due.thrownBy(port, x -> x.tell(2, ARTIST, SECOND)));
        Due.is("told by the DEALER", false, port.tell(2, THIRD, ARTIST));
        Due.is("it is known", 7, port.price(2, ARTIST));
        Due.is("told on", false, port.tell(2, ARTIST, SECOND));
        Due.is("it is known", 7, port.price(2, SECOND));
        Due.is("of another lot it is not", FreePort.NONE, port.price(1, THIRD));
        FreePort ten = new FreePort();
        for (int party = 0; party < 10; party++) {
            ten.party(0, 0);
        }
        ten.work(0, 0);
        ten.sell(0, 1, 9, 0);
        for (int party = 1; party < 9; party++) {
            Due.is("not yet to " + party, FreePort.NONE, ten.price(1, party));
            Due.is("to " + party, false, ten.tell(1, party == 1 ? 9 : party - 1, party));
            Due.is("then to " + party, 0, ten.price(1, party));
        }
    }
}
