import java.util.function.Supplier;

/** Promises 25 to 34: what is asked. */
final class QuestionsTest {
    private static final int ARTIST = 0, FIRST = 1, SECOND = 2, THIRD = 3;

    public static void main(String[] args) {
        promises25And26EachBar();
        promises25And26TheFirstBar();
        promises25And26Refusals();
        promise27Price();
        promise28OfParty();
        promise28Owed();
        promise28EachWorthByItself();
        promise28Punishers();
        promise29OfWork();
        promise30OfLot();
        promise30Chain();
        promise31OfLoan();
        promise32Doubt();
        promise33Gaps();
        promise34Index();
        promise34EachByItself();
        questionsChangeNothing();
        Due.end("QuestionsTest");
    }

    /** The artist of land 0, three more of the lands 1, 2 and 3 with 10000 each; lot 1 of 40 parts is FIRST's. */
    private static FreePort sold() {
        FreePort port = new FreePort();
        port.party(100, 0);
        for (int land = 1; land < 4; land++) {
            port.party(10000, land);
        }
        port.work(ARTIST, 600);
        port.sell(0, 40, FIRST, 1000);
        return port;
    }

    private static void barred(FreePort port, String why, int lot, int parts, int buyer, int price, int by,
        int number) {
        Due.is(why + ": bars", by, port.bars(lot, parts, buyer, price));
        Due.is(why + ": barredBy", number, port.barredBy(lot, parts, buyer, price));
    }

    private static void promises25And26EachBar() {
        barred(sold(), "by nothing", 1, 40, SECOND, 10000, 0, FreePort.NONE);
        barred(Scenes.after(sold(), x -> x.fail(FIRST)), "the holder", 1, 1, SECOND, 0, FreePort.FAILED, FIRST);
        barred(Scenes.after(sold(), x -> x.fail(SECOND)), "the buyer", 1, 1, SECOND, 0, FreePort.FAILED, SECOND);
        FreePort both = Scenes.after(sold(), x -> x.fail(SECOND));
        both.fail(FIRST);
        barred(both, "the holder ahead of the buyer", 1, 1, SECOND, 0, FreePort.FAILED, FIRST);
        barred(Scenes.after(sold(), x -> x.fail(THIRD)), "another", 1, 1, SECOND, 0, 0, FreePort.NONE);
        barred(sold(), "a part is missing", 1, 41, SECOND, 0, FreePort.SHORT, 1);
        barred(sold(), "20 parts are missing", 1, 60, SECOND, 0, FreePort.SHORT, 20);
        FreePort consigned = Scenes.after(sold(), x -> x.consign(1, THIRD, 0, 0, 0));
        barred(consigned, "consigned", 1, 1, SECOND, 0, FreePort.CONSIGNED, THIRD);
        consigned.pass(1);
        barred(consigned, "consigned, though ended", 1, 1, SECOND, 0, FreePort.CONSIGNED, THIRD);
        barred(consigned, "consigned to the buyer", 1, 1, THIRD, 0, FreePort.CONSIGNED, THIRD);
        FreePort kept = Scenes.after(sold(), x -> x.bar(0, 9));
        kept.pass(4);
        barred(kept, "a bar", 1, 1, SECOND, 0, FreePort.BARRED, 5);
        barred(kept, "a buyer of the land of the work", 1, 1, ARTIST, 0, 0, FreePort.NONE);
        FreePort elsewhere = Scenes.after(sold(), x -> x.bring(0, 2));
        elsewhere.bar(0, 9);
        barred(elsewhere, "the work is in the buyer's land now", 1, 1, SECOND, 0, 0, FreePort.NONE);
        barred(elsewhere, "and not in the artist's", 1, 1, ARTIST, 0, FreePort.BARRED, 9);
        barred(sold(), "1 is missing", 1, 1, SECOND, 10001, FreePort.POOR, 1);
        barred(sold(), "999900 are missing", 1, 1, ARTIST, 1000000, FreePort.POOR, 1000000 - 1100);
        FreePort flipped = Scenes.after(sold(), x -> x.sell(1, 1, SECOND, 0));
        barred(flipped, "punished", 0, 1, FIRST, 0, FreePort.PUNISHED, ARTIST);
        barred(flipped, "not by another holder", 2, 1, FIRST, 0, 0, FreePort.NONE);
        barred(full(), "60 lots", 0, 1, 1, 0, FreePort.FULL, 60);
    }

    private static FreePort full() {
        FreePort port = new FreePort();
        port.party(50, 0);
        port.party(50, 1);
        port.party(50, 2);
        port.work(0, 60);
        for (int i = 0; i < 59; i++) {
            port.sell(0, 1, 1 + i % 2, 0);
        }
        return port;
    }

    /** Where all of them hold, then one less each time, from the first on. */
    private static void promises25And26TheFirstBar() {
        FreePort failed = Scenes.after(allButFailed(), x -> x.fail(1));
        barred(failed, "all", 0, 2, 1, 51, FreePort.FAILED, 1);
        barred(allButFailed(), "all but FAILED", 0, 2, 1, 51, FreePort.SHORT, 1);
        barred(allButFailed(), "from CONSIGNED on", 0, 1, 1, 51, FreePort.CONSIGNED, 3);
        FreePort open = allButFailed();
        open.pass(1);
        open.back(0);
        barred(open, "from BARRED on", 0, 1, 1, 51, FreePort.BARRED, 6);
        open.bar(0, 0);
        barred(open, "from POOR on", 0, 1, 1, 51, FreePort.POOR, 1);
        barred(open, "from PUNISHED on", 0, 1, 1, 50, FreePort.PUNISHED, 0);
        barred(open, "FULL", 0, 1, 2, 50, FreePort.FULL, 60);
    }

    private static FreePort allButFailed() {
        FreePort port = new FreePort();
        for (int land = 0; land < 4; land++) {
            port.party(50, land);
        }
        port.work(0, 60);
        port.sell(0, 2, 1, 0);
        port.sell(1, 1, 2, 0);
        for (int lot = 3; lot < 60; lot++) {
            port.sell(0, 1, 2, 0);
        }
        port.bar(0, 7);
        port.consign(0, 3, 0, 0, 0);
        return port;
    }

    private static void promises25And26Refusals() {
        Supplier<FreePort> made = QuestionsTest::sold;
        Due.noSuch(made, "bars(2, 0, 2, 0)", x -> x.bars(2, 0, 2, 0));
        Due.noSuch(made, "bars(-1, 1, 2, 0)", x -> x.bars(-1, 1, 2, 0));
        Due.noSuch(made, "bars(1, 61, 4, 0)", x -> x.bars(1, 61, 4, 0));
        Due.noSuch(made, "bars(1, 1, -1, -1)", x -> x.bars(1, 1, -1, -1));
        Due.outOfRange(made, "bars(1, 0, 2, 0)", x -> x.bars(1, 0, 2, 0));
        Due.outOfRange(made, "bars(1, 61, 2, 0)", x -> x.bars(1, 61, 2, 0));
        Due.outOfRange(made, "bars(1, 1, 2, -1)", x -> x.bars(1, 1, 2, -1));
        Due.outOfRange(made, "bars(1, 1, 2, 1000001)", x -> x.bars(1, 1, 2, 1000001));
        Due.outOfRange(made, "bars(1, 1, 1, 0)", x -> x.bars(1, 1, 1, 0));
        Due.noSuch(made, "barredBy(2, 0, 2, 0)", x -> x.barredBy(2, 0, 2, 0));
        Due.noSuch(made, "barredBy(-1, 1, 2, 0)", x -> x.barredBy(-1, 1, 2, 0));
        Due.noSuch(made, "barredBy(1, 61, 4, 0)", x -> x.barredBy(1, 61, 4, 0));
        Due.noSuch(made, "barredBy(1, 1, -1, -1)", x -> x.barredBy(1, 1, -1, -1));
        Due.outOfRange(made, "barredBy(1, 0, 2, 0)", x -> x.barredBy(1, 0, 2, 0));
        Due.outOfRange(made, "barredBy(1, 61, 2, 0)", x -> x.barredBy(1, 61, 2, 0));
        Due.outOfRange(made, "barredBy(1, 1, 2, -1)", x -> x.barredBy(1, 1, 2, -1));
        Due.outOfRange(made, "barredBy(1, 1, 2, 1000001)", x -> x.barredBy(1, 1, 2, 1000001));
        Due.outOfRange(made, "barredBy(1, 1, 1, 0)", x -> x.barredBy(1, 1, 1, 0));
    }

    private static void promise27Price() {
        FreePort port = sold();
        port.sell(1, 5, SECOND, 70);
        port.sell(1, 5, THIRD, 0);
        Due.is("price(0, ARTIST)", -1, port.price(0, ARTIST));
        Due.is("price(1, ARTIST)", 1000, port.price(1, ARTIST));
        Due.is("price(1, FIRST)", 1000, port.price(1, FIRST));
        Due.is("price(1, SECOND)", -1, port.price(1, SECOND));
        Due.is("price(2, ARTIST)", -1, port.price(2, ARTIST));
        Due.is("price(2, FIRST)", 70, port.price(2, FIRST));
        Due.is("price(2, SECOND)", 70, port.price(2, SECOND));
        Due.is("a price of 0 is known", 0, port.price(3, THIRD));
        Due.is("or not", -1, port.price(3, SECOND));
        port.tell(2, SECOND, ARTIST);
        Due.is("as it was told", 70, port.price(2, ARTIST));
        Due.noSuch(QuestionsTest::sold, "price(2, 0)", x -> x.price(2, 0));
        Due.noSuch(QuestionsTest::sold, "price(-1, 0)", x -> x.price(-1, 0));
        Due.noSuch(QuestionsTest::sold, "price(0, 4)", x -> x.price(0, 4));
        Due.noSuch(QuestionsTest::sold, "price(0, -1)", x -> x.price(0, -1));
    }

    private static void partyIs(FreePort port, int party, int... due) {
        for (int what = 0; what < due.length; what++) {
            Due.is("ofParty(" + party + ", " + what + ")", due[what], port.ofParty(party, what));
        }
    }

    private static void promise28OfParty() {
        FreePort port = sold();
        port.work(FIRST, 61);
        port.lend(1, SECOND, 200, 100, 10);
        port.pass(1);
        partyIs(port, ARTIST, 1100, 20, 0, 0, 200, 0, 0);
        partyIs(port, FIRST, 9200, 100, 202, 0, 400 + 61, 0, 0);
        partyIs(port, SECOND, 9800, 0, 0, 202, 0, 0, 0);
        port.sell(1, 40, THIRD, 0);
        partyIs(port, FIRST, 9200, 60, 202, 0, 61, 0, 1);
        partyIs(port, THIRD, 10000, 40, 0, 0, 400, 0, 0);
        port.fail(FIRST);
        partyIs(port, FIRST, 9200, 60, 202, 0, 61, 1, 1);
        Due.noSuch(QuestionsTest::sold, "ofParty(4, 7)", x -> x.ofParty(4, 7));
        Due.noSuch(QuestionsTest::sold, "ofParty(-1, 0)", x -> x.ofParty(-1, 0));
        Due.outOfRange(QuestionsTest::sold, "ofParty(0, 7)", x -> x.ofParty(0, 7));
        Due.outOfRange(QuestionsTest::sold, "ofParty(0, -1)", x -> x.ofParty(0, -1));
    }

    private static void promise28Owed() {
        FreePort port = new FreePort();
        for (int i = 0; i < 5; i++) {
            port.party(1000, 0);
        }
        port.work(0, 100);
        port.work(1, 100);
        port.work(2, 119);
        port.lend(0, 3, 10, 0, 5);
        port.lend(1, 3, 20, 0, 5);
        port.lend(2, 4, 30, 0, 5);
        Due.is("owed to 3 by two loans", 30, port.ofParty(3, 3));
        Due.is("owed to 4", 30, port.ofParty(4, 3));
        port.work(0, 100);
        port.lend(3, 4, 5, 0, 5);
        Due.is("owed by 0 by two loans", 15, port.ofParty(0, 2));
        port.repay(3);
        port.sell(1, 60, 0, 1);
        Due.is("the borrower owes, not the holder", 20, port.ofParty(1, 2));
        Due.is("who holds two lots with loans", 10, port.ofParty(0, 2));
        port.repay(0);
        Due.is("none by one that is gone", 0, port.ofParty(0, 2));
        Due.is("nor to its lender", 20, port.ofParty(3, 3));
    }

    private static void promise28EachWorthByItself() {
        FreePort port = new FreePort();
        port.party(1000, 0);
        port.party(1000, 0);
        for (int work = 0; work < 3; work++) {
            port.work(0, 119);
        }
        for (int work = 0; work < 3; work++) {
            port.sell(work, 1, 1, 1);
        }
        Due.is("1 and 1 and 1, not 357 / 60", 3, port.ofParty(1, 4));
        Due.is("117 and 117 and 117", 351, port.ofParty(0, 4));
        Due.is("parts of three works", 177, port.ofParty(0, 1));
    }

    private static void promise28Punishers() {
        FreePort artists = new FreePort();
        for (int i = 0; i < 4; i++) {
            artists.party(10, 0);
        }
        for (int artist = 0; artist < 3; artist++) {
            artists.work(artist, 0);
            int lot = artists.sell(artist * 3, 1, 3, 0);
            artists.sell(lot, 1, (artist + 1) % 3, 0);
            Due.is("artists that punish it", artist + 1, artists.ofParty(3, 6));
        }
    }

    private static void workIs(FreePort port, int work, int... due) {
        for (int what = 0; what < due.length; what++) {
            Due.is("ofWork(" + work + ", " + what + ")", due[what], port.ofWork(work, what));
        }
    }

    private static void promise29OfWork() {
        FreePort port = sold();
        port.work(THIRD, 19);
        workIs(port, 0, 600, 0, 0, 0, -1, 2);
        workIs(port, 1, 19, 3, 0, 0, -1, 1);
        port.pass(2);
        port.list(0);
        port.seal(0, true);
        port.sell(1, 40, SECOND, 0);
        port.bar(0, 8);
        port.weight(SECOND, 1);
        port.word(SECOND, 1, false);
        port.pass(3);
        workIs(port, 0, 600, 0, 1, 5, 2, 2);
        workIs(port, 1, 1, 3, 0, 0, -1, 1);
        port.weight(SECOND, 0);
        Due.is("a doubt of 0 is not above 0", 19, port.ofWork(1, 0));
        port.weight(FIRST, 1);
        port.word(FIRST, 1, true);
        Due.is("a doubt below 0", 19, port.ofWork(1, 0));
        port.sell(2, 1, SECOND, 0);
        Due.is("a lot of a single part", 2, port.ofWork(1, 5));
        Due.noSuch(QuestionsTest::sold, "ofWork(1, 6)", x -> x.ofWork(1, 6));
        Due.noSuch(QuestionsTest::sold, "ofWork(-1, 0)", x -> x.ofWork(-1, 0));
        Due.outOfRange(QuestionsTest::sold, "ofWork(0, 6)", x -> x.ofWork(0, 6));
        Due.outOfRange(QuestionsTest::sold, "ofWork(0, -1)", x -> x.ofWork(0, -1));
    }

    private static void lotIs(FreePort port, int lot, int... due) {
        for (int what = 0; what < due.length; what++) {
            Due.is("ofLot(" + lot + ", " + what + ")", due[what], port.ofLot(lot, what));
        }
    }

    private static void promise30OfLot() {
        FreePort port = sold();
        port.work(SECOND, 59);
        lotIs(port, 0, 0, ARTIST, 20, -1, -1, -1, -1, 200, 0);
        lotIs(port, 1, 0, FIRST, 40, -1, -1, 0, 0, 400, 1);
        lotIs(port, 2, 1, SECOND, 60, -1, -1, -1, -1, 59, 0);
        port.pass(6);
        port.lend(1, THIRD, 100, 0, 1);
        port.consign(1, SECOND, 0, 0, 1);
        lotIs(port, 1, 0, FIRST, 40, 0, SECOND, 0, 0, 400, 1);
        port.sell(2, 1, THIRD, 5);
        lotIs(port, 2, 1, SECOND, 59, -1, -1, -1, -1, 59 * 59 / 60, 0);
        lotIs(port, 3, 1, THIRD, 1, -1, -1, 2, 6, 0, 1);
        Due.noSuch(QuestionsTest::sold, "ofLot(2, 9)", x -> x.ofLot(2, 9));
        Due.noSuch(QuestionsTest::sold, "ofLot(-1, 0)", x -> x.ofLot(-1, 0));
        Due.outOfRange(QuestionsTest::sold, "ofLot(0, 9)", x -> x.ofLot(0, 9));
        Due.outOfRange(QuestionsTest::sold, "ofLot(0, -1)", x -> x.ofLot(0, -1));
        FreePort great = new FreePort();
        great.party(0, 0);
        great.work(0, 1000000);
        Due.is("the greatest worth", 1000000, great.ofLot(0, 7));
    }

    private static void promise30Chain() {
        FreePort port = sold();
        port.pass(7);
        port.sell(1, 20, SECOND, 0);
        Due.is("7 days behind", 2, port.ofLot(2, 8));
        port.pass(7);
        port.sell(2, 20, THIRD, 0);
        Due.is("7 days behind again", 3, port.ofLot(3, 8));
        port.pass(8);
        port.sell(3, 20, FIRST, 0);
        Due.is("8 days behind", 1, port.ofLot(4, 8));
        port.sell(4, 20, SECOND, 0);
        Due.is("on the same day", 2, port.ofLot(5, 8));
        port.sell(1, 1, THIRD, 0);
        Due.is("22 days behind", 1, port.ofLot(6, 8));
        FreePort longest = new FreePort();
        for (int i = 0; i < 3; i++) {
            longest.party(0, 0);
        }
        longest.work(0, 0);
        for (int lot = 0; lot < 59; lot++) {
            longest.sell(lot, 60, 1 + lot % 2, 0);
        }
        Due.is("the longest", 59, longest.ofLot(59, 8));
    }

    private static void promise31OfLoan() {
        FreePort port = sold();
        port.pass(5);
        port.lend(1, THIRD, 199, 7, 30);
        port.pass(30);
        int[] due = {FIRST, THIRD, 199 + 199 * 7 * 30 / 10000, 35, 0, 0};
        for (int what = 0; what < due.length; what++) {
            Due.is("ofLoan(0, " + what + ")", due[what], port.ofLoan(0, what));
        }
        port.pass(1);
        Due.is("behind the day", 1, port.ofLoan(0, 4));
        port.fail(THIRD);
        Due.is("whether its lender has failed or not", 1, port.ofLoan(0, 4));
        port.repay(0);
        int[] gone = {FIRST, THIRD, 0, 35, 0, 1};
        for (int what = 0; what < gone.length; what++) {
            Due.is("gone: ofLoan(0, " + what + ")", gone[what], port.ofLoan(0, what));
        }
        FreePort great = new FreePort();
        great.party(1000000, 0);
        great.party(0, 0);
        great.work(1, 1000000);
        great.lend(0, 0, 500000, 100, 1000);
        for (int i = 0; i < 20; i++) {
            great.pass(1000);
        }
        Due.is("the most that is owed", 500000 + 100000000, great.ofLoan(0, 2));
        Due.is("by the borrower", 100500000, great.ofParty(1, 2));
        Supplier<FreePort> made = () -> Scenes.after(sold(), x -> x.lend(1, THIRD, 1, 0, 1));
        Due.noSuch(made, "ofLoan(1, 6)", x -> x.ofLoan(1, 6));
        Due.noSuch(made, "ofLoan(-1, 0)", x -> x.ofLoan(-1, 0));
        Due.outOfRange(made, "ofLoan(0, 6)", x -> x.ofLoan(0, 6));
        Due.outOfRange(made, "ofLoan(0, -1)", x -> x.ofLoan(0, -1));
    }

    private static void promise32Doubt() {
        FreePort port = sold();
        port.weight(FIRST, 5);
        port.weight(SECOND, 3);
        Due.is("without words", 0, port.doubt(0, 0));
        port.word(FIRST, 0, false);
        port.pass(2);
        port.word(SECOND, 0, true);
        port.word(THIRD, 0, false);
        port.pass(1);
        port.word(FIRST, 0, true);
        Due.is("on day 0", 5, port.doubt(0, 0));
        Due.is("on day 1", 5, port.doubt(0, 1));
        Due.is("on day 2, that day with it", 2, port.doubt(0, 2));
        Due.is("on day 3", -8, port.doubt(0, 3));
        port.word(FIRST, 0, false);
        Due.is("the latest of a day", 2, port.doubt(0, 3));
        port.weight(THIRD, 9);
        Due.is("by the weights now", 11, port.doubt(0, 2));
        port.weight(ARTIST, 1);
        port.word(ARTIST, 0, false);
        Due.is("the first party's word", 12, port.doubt(0, 3));
        Due.noSuch(QuestionsTest::sold, "doubt(1, -1)", x -> x.doubt(1, -1));
        Due.noSuch(QuestionsTest::sold, "doubt(-1, 0)", x -> x.doubt(-1, 0));
        Due.outOfRange(QuestionsTest::sold, "doubt(0, -1)", x -> x.doubt(0, -1));
        Due.outOfRange(QuestionsTest::sold, "doubt(0, 1)", x -> x.doubt(0, 1));
        Due.outOfRange(() -> Scenes.after(sold(), x -> x.pass(4)), "doubt(0, 5) on day 4", x -> x.doubt(0, 5));
    }

    private static void promise33Gaps() {
        FreePort port = sold();
        port.work(ARTIST, 0);
        Due.is("without papers", 101, port.gaps(0, 1900, 2000));
        Due.is("one year", 1, port.gaps(0, 1900, 1900));
        Due.is("one year", 1, port.gaps(0, 2000, 2000));
        port.paper(0, 1910, 1919);
        Due.is("a paper of ten years", 91, port.gaps(0, 1900, 2000));
        Due.is("ahead of it", 10, port.gaps(0, 1900, 1910));
        Due.is("in it", 0, port.gaps(0, 1910, 1919));
        Due.is("behind it", 2, port.gaps(0, 1919, 1921));
        Due.is("of another work", 10, port.gaps(1, 1910, 1919));
        Due.noSuch(QuestionsTest::sold, "gaps(1, 1, 1)", x -> x.gaps(1, 1, 1));
        Due.noSuch(QuestionsTest::sold, "gaps(-1, 1900, 1900)", x -> x.gaps(-1, 1900, 1900));
        Due.outOfRange(QuestionsTest::sold, "gaps(0, 1899, 1900)", x -> x.gaps(0, 1899, 1900));
        Due.outOfRange(QuestionsTest::sold, "gaps(0, 2001, 2001)", x -> x.gaps(0, 2001, 2001));
        Due.outOfRange(QuestionsTest::sold, "gaps(0, 1950, 2001)", x -> x.gaps(0, 1950, 2001));
        Due.outOfRange(QuestionsTest::sold, "gaps(0, 1950, 1949)", x -> x.gaps(0, 1950, 1949));
    }

    private static void promise34Index() {
        FreePort port = sold();
        Due.is("no sale that repeats", FreePort.NONE, port.index());
        port.sell(1, 40, SECOND, 1500);
        Due.is("1000 * 1500 * 40 / (1000 * 40)", 1500, port.index());
        port.sell(2, 10, THIRD, 1500);
        Due.is("1500 and 4000", 2750, port.index());
        port.sell(2, 10, THIRD, 0);
        Due.is("not for a price of 0", 2750, port.index());
        port.sell(4, 10, FIRST, 77);
        Due.is("nor behind a price of 0", 2750, port.index());
        port.sell(3, 10, FIRST, 1);
        Due.is("1500 and 4000 and 0", 1833, port.index());
        Due.is("lots that came by a sale from a lot by none", -1,
            Scenes.after(sold(), x -> x.sell(0, 1, FIRST, 9)).index());
    }

    private static void promise34EachByItself() {
        FreePort port = new FreePort();
        port.party(1000000, 0);
        port.party(1000000, 0);
        port.work(0, 0);
        port.sell(0, 60, 1, 3);
        port.sell(1, 7, 0, 1);
        port.sell(1, 7, 0, 1);
        Due.is("2857 and 2857 for 1000 * 60 / (3 * 7)", 2857, port.index());
        port.sell(1, 8, 0, 1);
        Due.is("2857 and 2857 and 2500", 2738, port.index());
        FreePort great = new FreePort();
        great.party(1000000, 0);
        great.party(1000000, 0);
        great.work(0, 0);
        great.sell(0, 60, 1, 1);
        great.sell(1, 1, 0, 1000000);
        Due.is("the greatest", 60000000000L, great.index());
        great.sell(1, 1, 0, 1);
        Due.is("and 60000", 30000030000L, great.index());
    }

    private static void questionsChangeNothing() {
        Supplier<FreePort> made = () -> Scenes.after(sold(), x -> {
            x.lend(1, THIRD, 100, 10, 3);
            x.word(FIRST, 0, false);
            x.paper(0, 1950, 1960);
        });
        FreePort asked = made.get();
        for (int what = 0; what <= 5; what++) {
            asked.ofParty(0, what);
            asked.ofWork(0, what);
            asked.ofLot(1, what);
            asked.ofLoan(0, what);
        }
        asked.ofParty(0, 6);
        asked.ofLot(1, 7);
        asked.ofLot(1, 8);
        asked.bars(1, 1, SECOND, 5);
        asked.barredBy(1, 1, SECOND, 5);
        asked.price(1, SECOND);
        asked.doubt(0, 0);
        asked.gaps(0, 1900, 2000);
        asked.index();
        Due.same("behind all questions", Look.at(made.get()), Look.at(asked));
    }
}
