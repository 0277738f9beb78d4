import java.util.function.Supplier;

/** Promises 1 to 14: a new object, parties and works. */
final class PartiesAndWorksTest {
    public static void main(String[] args) {
        promise1NewObject();
        promise2Party();
        promise3Work();
        promise3WorkAndSixtyLots();
        promise4Value();
        promise5Pass();
        promise6Weight();
        promise7Word();
        promise8Paper();
        promise9Right();
        promise10Bar();
        promise11Seal();
        promise12Bring();
        promise13List();
        promise14Fail();
        promise14WhatTheFailedCanNot();
        promise14WhatTheFailedStillCan();
        Due.end("PartiesAndWorksTest");
    }

    /** Four parties, 0 to 3, of the lands 0 to 3, with 1000 times their number and one; a work of party 1. */
    private static FreePort four() {
        FreePort port = new FreePort();
        for (int i = 0; i < 4; i++) {
            port.party(1000 * (i + 1), i);
        }
        port.work(1, 600);
        return port;
    }

    private static void promise1NewObject() {
        FreePort port = new FreePort();
        for (int land = 0; land < 4; land++) {
            Due.is("right of land " + land, 0, port.right(land, 0));
        }
        Due.is("index()", -1, port.index());
        Supplier<FreePort> fresh = FreePort::new;
        Due.noSuch(fresh, "ofParty(0, 0)", x -> x.ofParty(0, 0));
        Due.noSuch(fresh, "ofWork(0, 0)", x -> x.ofWork(0, 0));
        Due.noSuch(fresh, "ofLot(0, 0)", x -> x.ofLot(0, 0));
        Due.noSuch(fresh, "ofLoan(0, 0)", x -> x.ofLoan(0, 0));
        Due.is("the first day", 1, port.pass(1));
        Due.is("the first party", 0, port.party(0, 0));
        Due.is("the first work", 0, port.work(0, 0));
        Due.is("objects share nothing", 0, new FreePort().party(0, 0));
    }

    private static void promise2Party() {
        FreePort port = new FreePort();
        Due.is("party(1000000, 3)", 0, port.party(1000000, 3));
        Due.is("party(0, 0)", 1, port.party(0, 0));
        Due.is("party(7, 2)", 2, port.party(7, 2));
        Due.is("its money", 1000000, port.ofParty(0, 0));
        Due.is("its money", 7, port.ofParty(2, 0));
        for (int what = 1; what <= 6; what++) {
            Due.is("a new party's " + what, 0, port.ofParty(2, what));
        }
        Due.is("weight at first", 0, port.weight(2, 1));
        port.work(0, 0);
        port.work(2, 0);
        Due.is("its land", 3, port.ofWork(0, 1));
        Due.is("its land", 2, port.ofWork(1, 1));
        for (int i = 3; i < 10; i++) {
            Due.is("party number " + i, i, port.party(0, 0));
        }
        Due.noSuch(FreePort::new, "party(0, 4)", x -> x.party(0, 4));
        Due.noSuch(FreePort::new, "party(0, -1)", x -> x.party(0, -1));
        Due.noSuch(FreePort::new, "party(-1, 4)", x -> x.party(-1, 4));
        Due.outOfRange(FreePort::new, "party(-1, 0)", x -> x.party(-1, 0));
        Due.outOfRange(FreePort::new, "party(1000001, 0)", x -> x.party(1000001, 0));
        Due.notNow(PartiesAndWorksTest::tenParties, "party(0, 0), the 11th", x -> x.party(0, 0));
        Due.outOfRange(PartiesAndWorksTest::tenParties, "party(-1, 0), the 11th", x -> x.party(-1, 0));
        Due.noSuch(PartiesAndWorksTest::tenParties, "party(0, 4), the 11th", x -> x.party(0, 4));
    }

    private static FreePort tenParties() {
        FreePort port = new FreePort();
        for (int i = 0; i < 10; i++) {
            port.party(i, i % 4);
        }
        return port;
    }

    private static void promise3Work() {
        FreePort port = four();
        Due.is("work(3, 1000000)", 1, port.work(3, 1000000));
        Due.is("work(1, 0)", 2, port.work(1, 0));
        Due.is("its value", 1000000, port.ofWork(1, 0));
        Due.is("its land", 3, port.ofWork(1, 1));
        Due.is("sealed", 0, port.ofWork(1, 2));
        Due.is("bar", 0, port.ofWork(1, 3));
        Due.is("listed", -1, port.ofWork(1, 4));
        Due.is("lots with parts", 1, port.ofWork(1, 5));
        int[] lot = {1, 3, 60, -1, -1, -1, -1, 1000000, 0};
        for (int what = 0; what < lot.length; what++) {
            Due.is("its first lot's " + what, lot[what], port.ofLot(1, what));
        }
        Due.is("price of none", -1, port.price(1, 3));
        Due.noSuch(PartiesAndWorksTest::four, "work(4, 0)", x -> x.work(4, 0));
        Due.noSuch(PartiesAndWorksTest::four, "work(-1, -1)", x -> x.work(-1, -1));
        Due.outOfRange(PartiesAndWorksTest::four, "work(0, -1)", x -> x.work(0, -1));
        Due.outOfRange(PartiesAndWorksTest::four, "work(0, 1000001)", x -> x.work(0, 1000001));
        Due.is("the 12th work", 11, twelveWorks(12).ofLot(11, 0));
        Due.notNow(() -> twelveWorks(12), "work(0, 0), the 13th", x -> x.work(0, 0));
        Due.outOfRange(() -> twelveWorks(12), "work(0, -1), the 13th", x -> x.work(0, -1));
        Due.noSuch(() -> twelveWorks(12), "work(9, -1), the 13th", x -> x.work(9, -1));
    }

    private static FreePort twelveWorks(int works) {
        FreePort port = new FreePort();
        port.party(1, 0);
        port.party(1, 1);
        for (int i = 0; i < works; i++) {
            port.work(i % 2, i);
        }
        return port;
    }

    private static void promise3WorkAndSixtyLots() {
        FreePort port = withLots(59);
        Due.is("the work of the last lot", 1, port.work(1, 5));
        Due.is("the last lot", 1, port.ofLot(59, 0));
        Due.notNow(() -> withLots(60), "work(1, 5) with 60 lots", x -> x.work(1, 5));
        Due.outOfRange(() -> withLots(60), "work(1, -5) with 60 lots", x -> x.work(1, -5));
        Due.noSuch(() -> withLots(60), "work(2, 5) with 60 lots", x -> x.work(2, 5));
    }

    private static FreePort withLots(int lots) {
        FreePort port = new FreePort();
        port.party(1, 0);
        port.party(1, 0);
        port.work(0, 6000);
        for (int i = 1; i < lots; i++) {
            port.sell(0, 1, 1, 0);
        }
        return port;
    }

    private static void promise4Value() {
        FreePort port = four();
        port.work(0, 5);
        Due.is("value(0, 1000000)", 600, port.value(0, 1000000));
        Due.is("its value", 1000000, port.ofWork(0, 0));
        Due.is("another's value", 5, port.ofWork(1, 0));
        Due.is("value(0, 0)", 1000000, port.value(0, 0));
        Due.is("value(0, 9)", 0, port.value(0, 9));
        port.weight(2, 1);
        port.word(2, 0, false);
        Due.is("the told value before, not the tenth", 9, port.value(0, 19));
        Due.is("its value", 1, port.ofWork(0, 0));
        Due.noSuch(PartiesAndWorksTest::four, "value(1, 0)", x -> x.value(1, 0));
        Due.noSuch(PartiesAndWorksTest::four, "value(-1, -1)", x -> x.value(-1, -1));
        Due.outOfRange(PartiesAndWorksTest::four, "value(0, -1)", x -> x.value(0, -1));
        Due.outOfRange(PartiesAndWorksTest::four, "value(0, 1000001)", x -> x.value(0, 1000001));
    }

    private static void promise5Pass() {
        FreePort port = new FreePort();
        Due.is("pass(1)", 1, port.pass(1));
        Due.is("pass(1000)", 1001, port.pass(1000));
        Due.is("pass(999)", 2000, port.pass(999));
        Due.outOfRange(PartiesAndWorksTest::four, "pass(0)", x -> x.pass(0));
        Due.outOfRange(PartiesAndWorksTest::four, "pass(-1)", x -> x.pass(-1));
        Due.outOfRange(PartiesAndWorksTest::four, "pass(1001)", x -> x.pass(1001));
        Due.outOfRange(PartiesAndWorksTest::four, "pass(the greatest)", x -> x.pass(Integer.MAX_VALUE));
        Due.is("the last day", 20000, onDay(19999).pass(1));
        Due.is("the last day", 20000, onDay(19000).pass(1000));
        Due.notNow(() -> onDay(20000), "pass(1) behind the last day", x -> x.pass(1));
        Due.notNow(() -> onDay(19001), "pass(1000) over the last day", x -> x.pass(1000));
        Due.outOfRange(() -> onDay(20000), "pass(1001) behind the last day", x -> x.pass(1001));
        Due.outOfRange(() -> onDay(20000), "pass(0) behind the last day", x -> x.pass(0));
    }

    private static FreePort onDay(int day) {
        FreePort port = new FreePort();
        port.party(3, 0);
        int left = day;
        while (left > 0) {
            port.pass(Math.min(left, 1000));
            left -= Math.min(left, 1000);
        }
        return port;
    }

    private static void promise6Weight() {
        FreePort port = four();
        Due.is("weight(1, 9)", 0, port.weight(1, 9));
        Due.is("weight(1, 0)", 9, port.weight(1, 0));
        Due.is("weight(1, 4)", 0, port.weight(1, 4));
        Due.is("another's", 0, port.weight(2, 3));
        port.word(1, 0, false);
        port.word(2, 0, true);
        Due.is("doubt by the weights as they are", 1, port.doubt(0, 0));
        port.pass(1);
        port.weight(2, 9);
        Due.is("doubt of the day before by the weights now", -5, port.doubt(0, 0));
        Due.noSuch(PartiesAndWorksTest::four, "weight(4, 10)", x -> x.weight(4, 10));
        Due.noSuch(PartiesAndWorksTest::four, "weight(-1, 0)", x -> x.weight(-1, 0));
        Due.outOfRange(PartiesAndWorksTest::four, "weight(0, 10)", x -> x.weight(0, 10));
        Due.outOfRange(PartiesAndWorksTest::four, "weight(0, -1)", x -> x.weight(0, -1));
    }

    private static void promise7Word() {
        FreePort port = four();
        port.work(0, 0);
        port.weight(3, 6);
        Due.is("word(3, 0, false)", 1, port.word(3, 0, false));
        Due.is("on another work", 1, port.word(3, 1, true));
        Due.is("by another expert", 2, port.word(0, 0, true));
        Due.is("its doubt", 6, port.doubt(0, 0));
        Due.is("the other's", -6, port.doubt(1, 0));
        Due.is("again on one day", 3, port.word(3, 0, true));
        Due.is("the latest counts", -6, port.doubt(0, 0));
        for (int i = 4; i <= 50; i++) {
            Due.is("word " + i, i, port.word(2, 0, i % 2 == 0));
        }
        Due.is("on the other work", 2, port.word(2, 1, true));
        Due.noSuch(PartiesAndWorksTest::four, "word(4, 0, true)", x -> x.word(4, 0, true));
        Due.noSuch(PartiesAndWorksTest::four, "word(-1, 0, true)", x -> x.word(-1, 0, true));
        Due.noSuch(PartiesAndWorksTest::four, "word(0, 1, true)", x -> x.word(0, 1, true));
        Due.noSuch(PartiesAndWorksTest::four, "word(0, -1, true)", x -> x.word(0, -1, true));
        Due.notNow(PartiesAndWorksTest::fiftyWords, "word 51", x -> x.word(1, 0, false));
        Due.noSuch(PartiesAndWorksTest::fiftyWords, "word 51 of nobody", x -> x.word(4, 0, false));
    }

    private static FreePort fiftyWords() {
        FreePort port = four();
        port.weight(1, 2);
        for (int i = 0; i < 50; i++) {
            port.word(i % 4, 0, true);
        }
        return port;
    }

    private static void promise8Paper() {
        FreePort port = four();
        port.work(0, 0);
        port.paper(0, 1900, 1900);
        Due.is("gaps but one", 100, port.gaps(0, 1900, 2000));
        port.paper(0, 2000, 2000);
        Due.is("gaps but two", 99, port.gaps(0, 1900, 2000));
        port.paper(0, 1950, 1960);
        port.paper(0, 1955, 1965);
        Due.is("papers that overlap", 83, port.gaps(0, 1900, 2000));
        Due.is("just ahead", 1, port.gaps(0, 1949, 1950));
        Due.is("just behind", 1, port.gaps(0, 1965, 1966));
        Due.is("another work", 101, port.gaps(1, 1900, 2000));
        port.paper(0, 1900, 2000);
        Due.is("no gaps", 0, port.gaps(0, 1900, 2000));
        Due.noSuch(PartiesAndWorksTest::four, "paper(1, 1900, 1900)", x -> x.paper(1, 1900, 1900));
        Due.noSuch(PartiesAndWorksTest::four, "paper(-1, 1, 1)", x -> x.paper(-1, 1, 1));
        Due.outOfRange(PartiesAndWorksTest::four, "paper(0, 1899, 1950)", x -> x.paper(0, 1899, 1950));
        Due.outOfRange(PartiesAndWorksTest::four, "paper(0, 2001, 2001)", x -> x.paper(0, 2001, 2001));
        Due.outOfRange(PartiesAndWorksTest::four, "paper(0, 1950, 2001)", x -> x.paper(0, 1950, 2001));
        Due.outOfRange(PartiesAndWorksTest::four, "paper(0, 1950, 1949)", x -> x.paper(0, 1950, 1949));
    }

    private static void promise9Right() {
        FreePort port = four();
        Due.is("right(2, 20)", 0, port.right(2, 20));
        Due.is("right(2, 0)", 20, port.right(2, 0));
        Due.is("right(2, 5)", 0, port.right(2, 5));
        Due.is("right(3, 7)", 0, port.right(3, 7));
        port.sell(0, 60, 2, 0);
        port.sell(1, 60, 3, 999);
        Due.is("5 percent of 999 to the artist", 2049, port.ofParty(1, 0));
        port.sell(2, 60, 0, 100);
        Due.is("7 percent of 100", 2056, port.ofParty(1, 0));
        Due.noSuch(PartiesAndWorksTest::four, "right(4, 0)", x -> x.right(4, 0));
        Due.noSuch(PartiesAndWorksTest::four, "right(-1, 21)", x -> x.right(-1, 21));
        Due.outOfRange(PartiesAndWorksTest::four, "right(0, 21)", x -> x.right(0, 21));
        Due.outOfRange(PartiesAndWorksTest::four, "right(0, -1)", x -> x.right(0, -1));
    }

    private static void promise10Bar() {
        FreePort port = four();
        port.work(0, 0);
        Due.is("bar(0, 1000)", 0, port.bar(0, 1000));
        Due.is("its days", 1000, port.ofWork(0, 3));
        Due.is("another's", 0, port.ofWork(1, 3));
        port.pass(300);
        Due.is("in place of one", 700, port.bar(0, 2));
        port.pass(1);
        Due.is("a day is left", 1, port.ofWork(0, 3));
        Due.is("barred", FreePort.BARRED, port.bars(0, 1, 2, 0));
        port.pass(1);
        Due.is("over as they have passed", 0, port.ofWork(0, 3));
        Due.is("not barred", 0, port.bars(0, 1, 2, 0));
        port.pass(5);
        Due.is("none long over", 0, port.bar(0, 9));
        Due.is("bar(0, 0)", 9, port.bar(0, 0));
        Due.is("none then", 0, port.ofWork(0, 3));
        Due.noSuch(PartiesAndWorksTest::four, "bar(1, -1)", x -> x.bar(1, -1));
        Due.noSuch(PartiesAndWorksTest::four, "bar(-1, 0)", x -> x.bar(-1, 0));
        Due.outOfRange(PartiesAndWorksTest::four, "bar(0, -1)", x -> x.bar(0, -1));
        Due.outOfRange(PartiesAndWorksTest::four, "bar(0, 1001)", x -> x.bar(0, 1001));
    }

    private static void promise11Seal() {
        FreePort port = four();
        port.work(0, 0);
        Due.is("open in land 1", false, port.seal(0, false));
        Due.is("seal(1, true)", false, port.seal(1, true));
        Due.is("sealed", 1, port.ofWork(1, 2));
        Due.is("another is not", 0, port.ofWork(0, 2));
        Due.is("seal again", true, port.seal(1, true));
        Due.is("open", true, port.seal(1, false));
        Due.is("open again", false, port.seal(1, false));
        Due.is("not sealed", 0, port.ofWork(1, 2));
        port.bring(0, 0);
        Due.is("brought to land 0 it can be", false, port.seal(0, true));
        port.seal(0, false);
        Due.noSuch(PartiesAndWorksTest::four, "seal(1, true)", x -> x.seal(1, true));
        Due.noSuch(PartiesAndWorksTest::four, "seal(-1, false)", x -> x.seal(-1, false));
        Due.notNow(PartiesAndWorksTest::four, "seal(0, true) in land 1", x -> x.seal(0, true));
    }

    private static void promise12Bring() {
        FreePort port = four();
        Due.is("bring(0, 3)", 1, port.bring(0, 3));
        Due.is("its land", 3, port.ofWork(0, 1));
        port.bar(0, 4);
        Due.is("bring(0, 3), where it is, with a bar", 3, port.bring(0, 3));
        port.pass(4);
        Due.is("bring(0, 0), the bar being over", 3, port.bring(0, 0));
        port.seal(0, true);
        Due.is("bring(0, 0), where it is, sealed", 0, port.bring(0, 0));
        port.seal(0, false);
        Due.is("bring(0, 2), open again", 0, port.bring(0, 2));
        Due.noSuch(PartiesAndWorksTest::four, "bring(1, 0)", x -> x.bring(1, 0));
        Due.noSuch(PartiesAndWorksTest::four, "bring(-1, 0)", x -> x.bring(-1, 0));
        Due.noSuch(PartiesAndWorksTest::four, "bring(0, 4)", x -> x.bring(0, 4));
        Due.noSuch(PartiesAndWorksTest::four, "bring(0, -1)", x -> x.bring(0, -1));
        Supplier<FreePort> sealed = () -> {
            FreePort made = four();
            made.bring(0, 0);
            made.seal(0, true);
            return made;
        };
        Due.notNow(sealed, "bring(0, 1) sealed", x -> x.bring(0, 1));
        Due.noSuch(sealed, "bring(0, 4) sealed", x -> x.bring(0, 4));
        Supplier<FreePort> barred = () -> {
            FreePort made = four();
            made.bar(0, 3);
            made.pass(2);
            return made;
        };
        Due.notNow(barred, "bring(0, 0) with a bar", x -> x.bring(0, 0));
        Due.noSuch(barred, "bring(0, -1) with a bar", x -> x.bring(0, -1));
    }

    private static void promise13List() {
        FreePort port = four();
        port.work(0, 0);
        port.list(1);
        Due.is("listed on day 0", 0, port.ofWork(1, 4));
        Due.is("another is not", -1, port.ofWork(0, 4));
        port.pass(17);
        port.list(0);
        Due.is("listed on day 17", 17, port.ofWork(0, 4));
        port.pass(1);
        Due.is("listed on day 17", 17, port.ofWork(0, 4));
        Due.noSuch(PartiesAndWorksTest::four, "list(1)", x -> x.list(1));
        Due.noSuch(PartiesAndWorksTest::four, "list(-1)", x -> x.list(-1));
        Supplier<FreePort> listed = () -> {
            FreePort made = four();
            made.list(0);
            made.pass(2);
            return made;
        };
        Due.notNow(listed, "list(0) again", x -> x.list(0));
    }

    private static void promise14Fail() {
        FreePort port = four();
        port.work(0, 0);
        port.work(0, 0);
        port.work(0, 0);
        port.consign(0, 3, 5, 5, 5);
        port.consign(1, 3, 5, 5, 5);
        port.consign(2, 2, 5, 5, 5);
        Due.is("fail(3)", 2, port.fail(3));
        Due.is("it has failed", 1, port.ofParty(3, 5));
        Due.is("no dealer", -1, port.ofLot(0, 4));
        Due.is("no dealer", -1, port.ofLot(1, 4));
        Due.is("another dealer", 2, port.ofLot(2, 4));
        Due.is("fail(0)", 0, port.fail(0));
        Due.is("who deals for it still does", 2, port.ofLot(2, 4));
        Due.is("who holds stays", 0, port.ofLot(1, 1));
        Due.is("parts stay", 180, port.ofParty(0, 1));
        Due.is("another has not", 0, port.ofParty(1, 5));
        Due.noSuch(PartiesAndWorksTest::four, "fail(4)", x -> x.fail(4));
        Due.noSuch(PartiesAndWorksTest::four, "fail(-1)", x -> x.fail(-1));
        Supplier<FreePort> failed = () -> {
            FreePort made = four();
            made.fail(2);
            return made;
        };
        Due.notNow(failed, "fail(2) again", x -> x.fail(2));
    }

    /** The party 1, who is the artist, borrowed of 2; then 1 and 2 failed. */
    private static FreePort borrowerAndLenderFailed() {
        FreePort port = four();
        port.lend(0, 2, 100, 10, 3);
        port.fail(1);
        port.fail(2);
        return port;
    }

    private static void promise14WhatTheFailedCanNot() {
        Supplier<FreePort> failed = PartiesAndWorksTest::borrowerAndLenderFailed;
        Due.notNow(failed, "sell", x -> x.sell(0, 1, 0, 0));
        Due.notNow(failed, "consign", x -> x.consign(0, 0, 0, 0, 0));
        Due.notNow(failed, "repay", x -> x.repay(0));
        Due.notNow(failed, "assign", x -> x.assign(0, 3, 0));
        Supplier<FreePort> late = () -> {
            FreePort made = borrowerAndLenderFailed();
            made.pass(4);
            return made;
        };
        Due.is("it could be seized", 1, late.get().ofLoan(0, 4));
        Due.notNow(late, "seize", x -> x.seize(0));
        Supplier<FreePort> third = () -> {
            FreePort made = four();
            made.list(0);
            made.sell(0, 30, 0, 10);
            made.fail(3);
            return made;
        };
        Due.notNow(third, "buy", x -> x.sell(0, 1, 3, 0));
        Due.notNow(third, "be a dealer", x -> x.consign(0, 3, 0, 0, 0));
        Due.notNow(third, "lend", x -> x.lend(0, 3, 1, 0, 1));
        Due.notNow(third, "be an heir", x -> x.restore(1, 3));
        Due.is("another can be an heir", 0, third.get().restore(1, 2));
    }

    private static void promise14WhatTheFailedStillCan() {
        FreePort port = borrowerAndLenderFailed();
        Due.is("owe", 100, port.ofParty(1, 2));
        Due.is("be owed", 100, port.ofParty(2, 3));
        Due.is("tell words", 1, port.word(1, 0, true));
        Due.is("make works", 1, port.work(1, 0));
        FreePort paid = four();
        paid.sell(0, 60, 2, 500);
        paid.right(2, 10);
        paid.fail(1);
        paid.sell(1, 60, 0, 1000);
        Due.is("be paid as the artist", 2000 + 500 + 100, paid.ofParty(1, 0));
        Due.is("tell prices", false, paid.tell(1, 1, 3));
        FreePort repaid = four();
        repaid.lend(0, 2, 100, 0, 3);
        repaid.fail(2);
        Due.is("be paid back", 100, repaid.repay(0));
        Due.is("its money", 3000, repaid.ofParty(2, 0));
        FreePort taken = four();
        taken.consign(0, 2, 0, 0, 0);
        taken.fail(1);
        taken.pass(1);
        Due.is("take a lot back", 2, taken.back(0));
    }
}
