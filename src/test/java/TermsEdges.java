import java.util.function.Supplier;

/** The sentences of the terms on parties, works, lots, the value and the exceptions, on both sides of each boundary. */
final class TermsEdges {
    private static final int ARTIST = Scenes.ARTIST, FIRST = Scenes.FIRST, SECOND = Scenes.SECOND, THIRD = Scenes.THIRD;

    private TermsEdges() {
    }

    static void run() {
        calls();
        kept();
        questions();
        rounded();
        parties();
        works();
        lots();
        newLots();
        experts();
        words();
        value();
        constants();
    }

    private static void calls() {
        Doc.head("An object is used for at most 512 calls after it has been made");
        Doc.leavesFree("What it is", "; what later calls answer is free.");
        FreePort port = new FreePort();
        for (int call = 1; call <= 512; call++) {
            Due.is("call " + call, call, port.pass(1));
        }
        FreePort full = Scenes.lots(60);
        for (int call = 65; call <= 512; call++) {
            Due.is("call " + call, 60, full.barredBy(0, 1, SECOND, 0));
        }
    }

    private static void isKept(FreePort port, int lots) {
        int money = 0;
        int held = 0;
        for (int party = 0; party < 4; party++) {
            money += port.ofParty(party, 0);
            held += port.ofParty(party, 1);
        }
        int parts = 0;
        for (int lot = 0; lot < lots; lot++) {
            parts += port.ofLot(lot, 2);
        }
        Due.is("money", 40000, money);
        Due.is("parts held", 60, held);
        Due.is("parts of lots", 60, parts);
    }

    private static void kept() {
        Doc.terms("The parts of a work are sixty, and money is kept.");
        FreePort port = Scenes.fresh();
        port.right(1, 17);
        port.right(2, 20);
        isKept(port, 1);
        port.sell(0, 41, FIRST, 999);
        port.sell(1, 13, SECOND, 333);
        isKept(port, 3);
        port.consign(2, THIRD, 0, 33, 0);
        port.deal(2, ARTIST, 77);
        isKept(port, 4);
        port.lend(1, THIRD, 129, 7, 3);
        port.assign(0, SECOND, 55);
        isKept(port, 4);
        port.pass(30);
        port.repay(0);
        isKept(port, 4);
        port.lend(1, THIRD, 100, 9, 3);
        port.sell(1, 5, THIRD, 8);
        port.pass(30);
        port.seize(1);
        isKept(port, 5);
        port.list(0);
        port.sell(0, 19, SECOND, 1);
        port.restore(5, FIRST);
        isKept(port, 6);
    }

    private static void questions() {
        Doc.terms("Questions change nothing.");
        FreePort port = Scenes.lent();
        port.consign(1, THIRD, 7, 7, 7);
        port.word(FIRST, 0, false);
        port.weight(FIRST, 9);
        port.paper(0, 1950, 1960);
        port.bar(0, 3);
        port.list(0);
        String before = Inside.of(port);
        for (int number = -1; number <= 4; number++) {
            for (int what = -1; what <= 9; what++) {
                ask(port, number, what);
            }
        }
        Due.is("index", FreePort.NONE, port.index());
        Due.same("what it holds then", before, Inside.of(port));
    }

    private static void ask(FreePort port, int number, int what) {
        Due.thrownBy(port, x -> x.ofParty(number, what));
        Due.thrownBy(port, x -> x.ofWork(number, what));
        Due.thrownBy(port, x -> x.ofLot(number, what));
        Due.thrownBy(port, x -> x.ofLoan(number, what));
        Due.thrownBy(port, x -> x.doubt(number, what));
        Due.thrownBy(port, x -> x.gaps(number, 1945 + what, 1950 + what));
        Due.thrownBy(port, x -> x.price(number, what));
        Due.thrownBy(port, x -> x.bars(number, what, SECOND, 1000));
        Due.thrownBy(port, x -> x.barredBy(number, 1, what, 1000));
    }

    /** A price of 99 and 100 at 1 percent, 1 and 2 percent of 50, and so on: a product that is just too small. */
    private static void rounded() {
        Doc.terms("All numbers are whole. Where something is divided, it is rounded towards 0; products are made "
            + "ahead of being divided.");
        int[][] rights = {{99, 1, 0}, {100, 1, 1}, {49, 2, 0}, {50, 2, 1}, {4, 20, 0}, {5, 20, 1}, {999, 10, 99}};
        for (int[] row : rights) {
            FreePort port = Scenes.sold();
            port.right(1, row[1]);
            port.sell(1, 1, SECOND, row[0]);
            Due.is(row[1] + " percent of " + row[0], 11000 + row[2], port.ofParty(ARTIST, 0));
            Due.is("the rest", 9000 + row[0] - row[2], port.ofParty(FIRST, 0));
            FreePort dealt = Scenes.sold();
            dealt.consign(1, SECOND, 0, row[1], 0);
            dealt.deal(1, THIRD, row[0]);
            Due.is(row[1] + " percent of " + row[0], 10000 + row[2], dealt.ofParty(SECOND, 0));
            Due.is("the rest", 9000 + row[0] - row[2], dealt.ofParty(FIRST, 0));
        }
        FreePort both = Scenes.sold();
        both.right(1, 1);
        both.consign(1, SECOND, 0, 1, 0);
        both.deal(1, THIRD, 150);
        Due.is("1 and 1 percent of 150, each by itself", 9000 + 150 - 1 - 1, both.ofParty(FIRST, 0));
    }

    private static void parties() {
        Doc.leavesFree("Terms", "Parties, works, lots\n");
        Doc.terms("Days are counted from 0.");
        FreePort port = Scenes.fresh();
        port.list(0);
        Due.is("the first day", 0, port.ofWork(0, 4));
        Doc.terms("Parties are numbered from 0, at most 10:");
        FreePort ten = new FreePort();
        for (int number = 0; number < 10; number++) {
            Due.is("its number", number, ten.party(5, 0));
        }
        Due.same("an eleventh", "IllegalStateException", Due.thrownBy(ten, x -> x.party(5, 0)));
        Due.is("the tenth is there", 5, ten.ofParty(9, 0));
        Due.same("the eleventh is not", "IndexOutOfBoundsException", Due.thrownBy(ten, x -> x.ofParty(10, 0)));
        Doc.terms("a party has MONEY and is of a land, 0 to 3; it can have FAILED.");
        for (int land = 0; land < 4; land++) {
            FreePort of = new FreePort();
            of.party(7, land);
            of.work(0, 0);
            Due.is("its MONEY", 7, of.ofParty(0, 0));
            Due.is("its land, as its work tells", land, of.ofWork(0, 1));
            Due.is("it has not FAILED", 0, of.ofParty(0, 5));
            of.fail(0);
            Due.is("it has FAILED", 1, of.ofParty(0, 5));
        }
        Due.noSuch(FreePort::new, "a land below", x -> x.party(7, -1));
        Due.noSuch(FreePort::new, "a land above", x -> x.party(7, 4));
    }

    private static void works() {
        Doc.terms("Works are numbered from 0, at most 12:");
        FreePort twelve = Scenes.four(0);
        for (int number = 0; number < 12; number++) {
            Due.is("its number", number, twelve.work(3, number));
        }
        Due.same("a thirteenth", "IllegalStateException", Due.thrownBy(twelve, x -> x.work(3, 0)));
        Due.is("the twelfth is there", 11, twelve.ofWork(11, 0));
        Due.same("the thirteenth is not", "IndexOutOfBoundsException", Due.thrownBy(twelve, x -> x.ofWork(12, 0)));
        Doc.terms("a work is of an artist, a party, has a told value, and is in a land, that of its artist at first.");
        FreePort port = Scenes.four(0);
        for (int artist = 0; artist < 4; artist++) {
            port.work(artist, 10 + artist);
            Due.is("its artist's lot", artist, port.ofLot(artist, 1));
            Due.is("its told value", 10 + artist, port.value(artist, 10 + artist));
            Due.is("its land", artist, port.ofWork(artist, 1));
        }
        port.bring(2, 1);
        Due.is("at first alone", 1, port.ofWork(2, 1));
    }

    private static void lots() {
        Doc.terms("Lots are numbered from 0, at most 60: a lot is of a work, has a HOLDER, PARTS, 0 to 60,");
        FreePort port = Scenes.fresh();
        Due.is("the first has 60 PARTS", 60, port.ofLot(0, 2));
        for (int lot = 1; lot < 60; lot++) {
            Due.is("its number", lot, port.sell(lot - 1, 60, lot % 2 == 1 ? FIRST : SECOND, 0));
            Due.is("it has 60 PARTS", 60, port.ofLot(lot, 2));
            Due.is("the one ahead has 0", 0, port.ofLot(lot - 1, 2));
            Due.is("its work", 0, port.ofLot(lot, 0));
            Due.is("its HOLDER", lot % 2 == 1 ? FIRST : SECOND, port.ofLot(lot, 1));
        }
        Due.same("another one", "IllegalStateException", Due.thrownBy(port, x -> x.sell(59, 60, THIRD, 0)));
        Due.same("number 60", "IndexOutOfBoundsException", Due.thrownBy(port, x -> x.ofLot(60, 0)));
        Doc.terms("at times a LOAN, and a DEALER; it came from another lot, or from none; and it came by a SALE, on "
            + "a day, for a price, or by none.");
        FreePort with = Scenes.passed(Scenes::fresh, 5).get();
        with.sell(0, 40, FIRST, 1000);
        with.lend(1, SECOND, 1, 0, 1);
        with.consign(1, THIRD, 0, 0, 0);
        int[] due = {0, THIRD, 0, 5};
        for (int what = 3; what <= 6; what++) {
            Due.is("with: ofLot(1, " + what + ")", due[what - 3], with.ofLot(1, what));
            Due.is("without: ofLot(0, " + what + ")", FreePort.NONE, with.ofLot(0, what));
        }
        Due.is("for a price", 1000, with.price(1, FIRST));
        Due.is("for none", FreePort.NONE, with.price(0, ARTIST));
        Doc.terms("A work begins with a lot of 60 PARTS, held by its artist, that came from none, by none.");
        FreePort first = Scenes.sold();
        first.work(THIRD, 7);
        int[] begins = {1, THIRD, 60, FreePort.NONE, FreePort.NONE, FreePort.NONE, FreePort.NONE, 7, 0};
        for (int what = 0; what <= 8; what++) {
            Due.is("ofLot(2, " + what + ")", begins[what], first.ofLot(2, what));
        }
    }

    private static void newLots() {
        Doc.terms("PARTS of a lot go to somebody in a new lot: it has these PARTS, that HOLDER, the LOAN of the old "
            + "one, if that has one, no DEALER, and came from the old one, which has as many PARTS less (it may "
            + "have 0 then).");
        for (int parts : new int[] {1, 39, 40}) {
            FreePort port = Scenes.sold();
            Due.is("sell(1, " + parts + ", ..)", 2, port.sell(1, parts, THIRD, 0));
            int[] made = {0, THIRD, parts, FreePort.NONE, FreePort.NONE, 1};
            int[] old = {0, FIRST, 40 - parts, FreePort.NONE, FreePort.NONE, 0};
            for (int what = 0; what <= 5; what++) {
                Due.is("the new lot: ofLot(2, " + what + ")", made[what], port.ofLot(2, what));
                Due.is("the old lot: ofLot(1, " + what + ")", old[what], port.ofLot(1, what));
            }
            FreePort pledged = Scenes.lent();
            pledged.sell(1, parts, THIRD, 0);
            Due.is("the new one has the LOAN", 0, pledged.ofLot(2, 3));
            Due.is("the old one too", 0, pledged.ofLot(1, 3));
        }
        FreePort dealt = Scenes.consigned();
        dealt.deal(1, THIRD, 500);
        Due.is("no DEALER", FreePort.NONE, dealt.ofLot(2, 4));
        Due.is("all its PARTS", 40, dealt.ofLot(2, 2));
        Due.is("0 then", 0, dealt.ofLot(1, 2));
    }

    private static void experts() {
        Doc.terms("An expert is a party with a weight, 0 to 9, 0 at first, as it is now.");
        FreePort port = Scenes.fresh();
        port.word(FIRST, 0, false);
        Due.is("0 at first", 0, port.doubt(0, 0));
        port.pass(2);
        port.weight(FIRST, 9);
        Due.is("9 now, for the day 0 too", 9, port.doubt(0, 0));
        port.weight(FIRST, 0);
        Due.is("0 now", 0, port.doubt(0, 2));
        Due.outOfRange(Scenes::fresh, "10", x -> x.weight(FIRST, 10));
        Due.outOfRange(Scenes::fresh, "-1", x -> x.weight(FIRST, -1));
        Doc.terms("An expert's word on a work says that it is right, or not, on its day; of words of one expert on "
            + "one work the latest one told by then counts.");
        FreePort told = Scenes.fresh();
        told.work(ARTIST, 0);
        told.weight(FIRST, 2);
        told.weight(SECOND, 5);
        told.word(FIRST, 0, false);
        told.word(FIRST, 0, true);
        told.word(FIRST, 1, false);
        told.pass(1);
        told.word(SECOND, 0, false);
        told.word(FIRST, 0, false);
        Due.is("the latest one of day 0", -2, told.doubt(0, 0));
        Due.is("that of day 1, and another's", 7, told.doubt(0, 1));
        Due.is("on the other work", 2, told.doubt(1, 1));
        told.word(FIRST, 0, true);
        Due.is("the latest one of day 1", 3, told.doubt(0, 1));
        Due.is("not told by day 0", -2, told.doubt(0, 0));
    }

    private static void words() {
        Doc.terms("The doubt of a work on a day is the sum of the weights of the experts whose word by that day, "
            + "that day with it, says that it is not right, less the sum of those whose word says that it is.");
        FreePort port = Scenes.fresh();
        for (int expert = 0; expert < 4; expert++) {
            port.weight(expert, 6 + expert);
        }
        Due.is("without words", 0, port.doubt(0, 0));
        port.pass(5);
        port.word(0, 0, false);
        port.word(1, 0, true);
        port.word(2, 0, false);
        port.word(3, 0, true);
        Due.is("the day ahead", 0, port.doubt(0, 4));
        Due.is("that day with it", 6 - 7 + 8 - 9, port.doubt(0, 5));
        port.pass(1);
        Due.is("the day behind", 6 - 7 + 8 - 9, port.doubt(0, 6));
        FreePort all = new FreePort();
        for (int expert = 0; expert < 10; expert++) {
            all.party(0, 0);
            all.weight(expert, 9);
        }
        all.work(0, 0);
        all.work(0, 0);
        for (int expert = 0; expert < 10; expert++) {
            all.word(expert, 0, false);
            all.word(expert, 1, true);
        }
        Due.is("the greatest", 90, all.doubt(0, 0));
        Due.is("the least", -90, all.doubt(1, 0));
    }

    private static void value() {
        Doc.terms("The VALUE of a work now is its told value, or a tenth of it, if its doubt today is above 0.");
        FreePort port = Scenes.fresh();
        port.weight(FIRST, 1);
        port.weight(SECOND, 2);
        port.word(SECOND, 0, true);
        Due.is("a doubt of -2", 600, port.ofWork(0, 0));
        port.weight(SECOND, 1);
        port.word(FIRST, 0, false);
        Due.is("a doubt of 0", 600, port.ofWork(0, 0));
        port.weight(FIRST, 2);
        Due.is("a doubt of 1", 60, port.ofWork(0, 0));
        port.pass(1);
        Due.is("a day later", 60, port.ofWork(0, 0));
        port.word(FIRST, 0, true);
        Due.is("none today, 1 the day before", 600, port.ofWork(0, 0));
        port.word(FIRST, 0, false);
        int[][] tenths = {{0, 0}, {9, 0}, {10, 1}, {19, 1}, {999999, 99999}, {1000000, 100000}};
        for (int[] row : tenths) {
            port.value(0, row[0]);
            Due.is("a tenth of " + row[0], row[1], port.ofWork(0, 0));
        }
        Doc.terms("The WORTH of a lot is the VALUE of its work times its PARTS, divided by 60.");
        int[][] worths = {{1, 59, 0}, {1, 60, 1}, {60, 1, 1}, {59, 1, 0}, {61, 59, 59}, {119, 30, 59}, {120, 30, 60}};
        for (int[] row : worths) {
            FreePort lot = Scenes.fresh();
            lot.value(0, row[0]);
            lot.sell(0, row[1], FIRST, 0);
            Due.is(row[1] + " PARTS of " + row[0], row[2], lot.ofLot(1, 7));
        }
        Due.is("of the greatest", 1000000, Scenes.rich().ofLot(1, 7));
        Due.is("of 0 PARTS", 0, Scenes.rich().ofLot(0, 7));
        FreePort doubted = Scenes.fresh();
        doubted.value(0, 619);
        doubted.sell(0, 59, FIRST, 0);
        doubted.weight(FIRST, 1);
        doubted.word(FIRST, 0, false);
        Due.is("61 * 59 / 60, not 619 * 59 / 600", 59, doubted.ofLot(1, 7));
    }

    private static void constants() {
        Doc.terms("The constants: NONE = -1: There is none.");
        Due.is("NONE", -1, FreePort.NONE);
        Doc.terms("FAILED = 1, SHORT = 2, CONSIGNED = 3, BARRED = 4, POOR = 5, PUNISHED = 6, FULL = 7: By what a "
            + "sale is barred.");
        int[] constants = {FreePort.FAILED, FreePort.SHORT, FreePort.CONSIGNED, FreePort.BARRED, FreePort.POOR,
            FreePort.PUNISHED, FreePort.FULL};
        for (int i = 0; i < constants.length; i++) {
            Due.is("constant " + (i + 1), i + 1, constants[i]);
        }
    }
}
