import java.util.function.Supplier;

/** The rows of the promises 1 to 14, each on both sides of its boundary. */
final class WorksEdges {
    private static final int ARTIST = Scenes.ARTIST, FIRST = Scenes.FIRST, SECOND = Scenes.SECOND, THIRD = Scenes.THIRD;
    private static final String NO_PARTY = "Throws IndexOutOfBoundsException if there is no such party";
    private static final String NO_WORK = "Throws IndexOutOfBoundsException if there is no such work";

    private WorksEdges() {
    }

    static void run() {
        newObject();
        party();
        work();
        value();
        pass();
        weight();
        word();
        paper();
        right();
        bar();
        seal();
        bring();
        list();
        fail();
    }

    private static void newObject() {
        Doc.promise(1, "No parties and works, on the day 0; no land has a resale right.");
        Supplier<FreePort> fresh = FreePort::new;
        Due.noSuch(fresh, "ofParty(0, 0)", x -> x.ofParty(0, 0));
        Due.noSuch(fresh, "ofWork(0, 0)", x -> x.ofWork(0, 0));
        Due.noSuch(fresh, "ofLot(0, 0)", x -> x.ofLot(0, 0));
        Due.noSuch(fresh, "ofLoan(0, 0)", x -> x.ofLoan(0, 0));
        Due.is("the day behind it", 1, new FreePort().pass(1));
        Due.outOfRange(Scenes::fresh, "doubt(0, 1)", x -> x.doubt(0, 1));
        for (int land = 0; land < 4; land++) {
            Due.is("right of " + land, 0, new FreePort().right(land, 20));
        }
    }

    private static FreePort parties(int count) {
        FreePort port = new FreePort();
        for (int i = 0; i < count; i++) {
            port.party(i, i % 4);
        }
        return port;
    }

    private static void party() {
        Doc.promise(2, "Adds a party.", "Returns its number.");
        FreePort port = new FreePort();
        for (int number = 0; number < 10; number++) {
            Due.is("party(0, 0)", number, port.party(0, 0));
        }
        Doc.promise(2, "- money: 0 to 1000000", "Throws IllegalArgumentException if money is out of range");
        Edge.ranged(FreePort::new, "money", 0, 1000000, (x, money) -> x.party(money, 0));
        Due.is("the most", 1000000, Scenes.four(1000000).ofParty(3, 0));
        Due.is("the least", 0, Scenes.four(0).ofParty(3, 0));
        Doc.promise(2, "- land: 0 to 3", "Throws IndexOutOfBoundsException if there is no such land");
        Edge.numbered(FreePort::new, "party", 4, (x, land) -> x.party(0, land));
        Doc.promise(2, "Throws IllegalStateException if there are 10");
        Due.is("the tenth", 9, parties(9).party(0, 0));
        Due.notNow(() -> parties(10), "the eleventh", x -> x.party(0, 0));
    }

    private static FreePort works(int count) {
        FreePort port = Scenes.four(50);
        for (int i = 0; i < count; i++) {
            port.work(i % 4, 10 * i);
        }
        return port;
    }

    private static void work() {
        Doc.promise(3, "Adds a work.", "Returns its number.");
        FreePort port = Scenes.four(0);
        for (int number = 0; number < 12; number++) {
            Due.is("work(3, 7)", number, port.work(3, 7));
        }
        Doc.promise(3, "- artist: a party", NO_PARTY);
        Edge.numbered(Scenes::fresh, "work", 4, (x, artist) -> x.work(artist, 0));
        Due.noSuch(FreePort::new, "work(0, 0) without parties", x -> x.work(0, 0));
        Doc.promise(3, "- value: 0 to 1000000", "Throws IllegalArgumentException if value is out of range");
        Edge.ranged(Scenes::fresh, "value", 0, 1000000, (x, value) -> x.work(ARTIST, value));
        Doc.promise(3, "Throws IllegalStateException if there are 12, or 60 lots");
        Due.is("the twelfth", 11, works(11).work(3, 0));
        Due.notNow(() -> works(12), "the thirteenth", x -> x.work(3, 0));
        Due.is("with 59 lots", 1, Scenes.lots(59).work(3, 0));
        Due.is("its lot is the sixtieth", 1, Scenes.after(() -> Scenes.lots(59), x -> x.work(3, 0)).get().ofLot(59, 0));
        Due.notNow(() -> Scenes.lots(60), "with 60 lots", x -> x.work(3, 0));
        Supplier<FreePort> both = () -> {
            FreePort made = works(12);
            for (int lot = 12; lot < 60; lot++) {
                made.sell(0, 1, FIRST, 0);
            }
            return made;
        };
        Due.notNow(both, "with 12 works and 60 lots", x -> x.work(3, 0));
    }

    private static void value() {
        Doc.promise(4, "Tells the value of a work.", "Returns the told value before.");
        FreePort port = Scenes.fresh();
        Due.is("value(0, 9)", 600, port.value(0, 9));
        Due.is("value(0, 10)", 9, port.value(0, 10));
        port.weight(FIRST, 1);
        port.word(FIRST, 0, false);
        Due.is("the told one, not the tenth", 10, port.value(0, 10));
        Due.is("nothing told between", 10, port.value(0, 0));
        Doc.promise(4, "- work: its number", NO_WORK);
        Edge.numbered(() -> works(3), "value", 3, (x, work) -> x.value(work, 1));
        Doc.promise(4, "- value: 0 to 1000000", "Throws IllegalArgumentException if value is out of range");
        Edge.ranged(Scenes::fresh, "value", 0, 1000000, (x, value) -> x.value(0, value));
    }

    private static FreePort onDay(int day) {
        FreePort port = Scenes.sold();
        Scenes.pass(port, day);
        return port;
    }

    private static void pass() {
        Doc.promise(5, "Lets days pass.", "Returns the day then.");
        FreePort port = new FreePort();
        Due.is("pass(1)", 1, port.pass(1));
        Due.is("pass(1000)", 1001, port.pass(1000));
        Due.is("pass(2)", 1003, port.pass(2));
        Doc.promise(5, "- days: 1 to 1000", "Throws IllegalArgumentException if days is out of range");
        Edge.ranged(Scenes::sold, "pass", 1, 1000, FreePort::pass);
        Doc.promise(5, "Throws IllegalStateException if it would be above 20000");
        Due.is("to it", 20000, onDay(19999).pass(1));
        Due.is("to it", 20000, onDay(19000).pass(1000));
        Due.is("to it", 20000, onDay(19001).pass(999));
        Due.notNow(() -> onDay(20000), "pass(1) on it", x -> x.pass(1));
        Due.notNow(() -> onDay(19999), "pass(2) a day ahead of it", x -> x.pass(2));
        Due.notNow(() -> onDay(19001), "pass(1000) to a day above", x -> x.pass(1000));
        Due.notNow(() -> onDay(20000), "pass(1000) on it", x -> x.pass(1000));
    }

    private static void weight() {
        Doc.promise(6, "Tells the weight of an expert.", "Returns what it was.");
        FreePort port = Scenes.fresh();
        Due.is("weight(2, 9)", 0, port.weight(2, 9));
        Due.is("weight(2, 0)", 9, port.weight(2, 0));
        Due.is("weight(3, 0)", 0, port.weight(3, 0));
        Doc.promise(6, "- expert: a party", NO_PARTY);
        Edge.numbered(Scenes::fresh, "weight", 4, (x, expert) -> x.weight(expert, 1));
        Doc.promise(6, "- weight: 0 to 9", "Throws IllegalArgumentException if weight is out of range");
        Edge.ranged(Scenes::fresh, "weight", 0, 9, (x, weight) -> x.weight(0, weight));
    }

    private static FreePort words(int count) {
        FreePort port = works(2);
        port.weight(ARTIST, 3);
        for (int i = 0; i < count; i++) {
            port.word(i % 4, 1, true);
        }
        return port;
    }

    private static void word() {
        Doc.promise(7, "Tells an expert's word of today.", "- is: whether it says that the work is right");
        FreePort port = words(0);
        port.pass(2);
        port.word(ARTIST, 0, false);
        port.word(ARTIST, 1, true);
        Due.is("not right", 3, port.doubt(0, 2));
        Due.is("right", -3, port.doubt(1, 2));
        Due.is("none of the day before", 0, port.doubt(0, 1));
        Doc.promise(7, "Returns how many words on the work were told.");
        FreePort counted = words(0);
        for (int number = 1; number <= 50; number++) {
            Due.is("on work 1", number, counted.word(FIRST, 1, true));
        }
        Due.is("on work 0", 1, counted.word(FIRST, 0, true));
        Doc.promise(7, "- expert: a party", "- work: its number",
            "Throws IndexOutOfBoundsException if there is no such party or work");
        Edge.numbered(() -> works(3), "word", 4, (x, expert) -> x.word(expert, 0, true));
        Edge.numbered(() -> works(3), "word", 3, (x, work) -> x.word(0, work, false));
        Doc.promise(7, "Throws IllegalStateException if 50 were told on it");
        Due.is("the fiftieth", 50, words(49).word(ARTIST, 1, false));
        Due.notNow(() -> words(50), "another", x -> x.word(ARTIST, 1, false));
        Due.is("on the other work", 1, words(50).word(ARTIST, 0, false));
    }

    private static void paper() {
        Doc.promise(8, "Tells a paper of a work: that where it was is known for some years.");
        FreePort port = works(2);
        port.paper(1, 1950, 1951);
        Due.is("its first year", 1, port.gaps(1, 1949, 1950));
        Due.is("its last year", 1, port.gaps(1, 1951, 1952));
        Due.is("another work's", 101, port.gaps(0, 1900, 2000));
        port.paper(1, 1900, 1900);
        port.paper(1, 2000, 2000);
        Due.is("a year each", 97, port.gaps(1, 1900, 2000));
        Doc.promise(8, "- work: its number", NO_WORK);
        Edge.numbered(() -> works(3), "paper", 3, (x, work) -> x.paper(work, 1900, 2000));
        Doc.promise(8, "- from: 1900 to 2000", "Throws IllegalArgumentException if from or to is out of range");
        Edge.ranged(Scenes::fresh, "from", 1900, 2000, (x, from) -> x.paper(0, from, 2000));
        Doc.promise(8, "- to: from to 2000");
        Edge.ranged(Scenes::fresh, "to, from 1950", 1950, 2000, (x, to) -> x.paper(0, 1950, to));
        Edge.ranged(Scenes::fresh, "to, from 1900", 1900, 2000, (x, to) -> x.paper(0, 1900, to));
        Edge.ranged(Scenes::fresh, "to, from 2000", 2000, 2000, (x, to) -> x.paper(0, 2000, to));
        Due.outOfRange(Scenes::fresh, "paper(0, 1899, 1899)", x -> x.paper(0, 1899, 1899));
        Due.outOfRange(Scenes::fresh, "paper(0, 2001, 2001)", x -> x.paper(0, 2001, 2001));
    }

    private static void right() {
        Doc.promise(9, "Tells the percent of the resale right of a land.", "Returns what it was.");
        FreePort port = Scenes.sold();
        Due.is("right(1, 20)", 0, port.right(1, 20));
        Due.is("right(1, 3)", 20, port.right(1, 3));
        Due.is("right(2, 5)", 0, port.right(2, 5));
        port.sell(1, 1, SECOND, 100);
        Due.is("3 percent to the artist", 11000 + 3, port.ofParty(ARTIST, 0));
        Doc.promise(9, "- land: 0 to 3", "Throws IndexOutOfBoundsException if there is no such land");
        Edge.numbered(Scenes::fresh, "right", 4, (x, land) -> x.right(land, 1));
        Doc.promise(9, "- percent: 0 to 20", "Throws IllegalArgumentException if percent is out of range");
        Edge.ranged(Scenes::fresh, "percent", 0, 20, (x, percent) -> x.right(0, percent));
    }

    private static void bar() {
        Doc.promise(10, "Tells an export bar of a work, in place of one that it has.");
        FreePort port = works(2);
        port.bar(1, 9);
        port.bar(1, 4);
        Due.is("the shorter one in place of the longer", 4, port.ofWork(1, 3));
        port.bar(1, 5);
        Due.is("and the other way round", 5, port.ofWork(1, 3));
        Due.is("another work's", 0, port.ofWork(0, 3));
        Doc.promise(10, "Returns the days that were left of one.");
        port.pass(4);
        Due.is("a day", 1, port.bar(1, 2));
        port.pass(2);
        Due.is("none, as they have passed", 0, port.bar(1, 2));
        port.pass(3);
        Due.is("none, a day behind that", 0, port.bar(1, 0));
        Due.is("none of none", 0, port.bar(1, 0));
        Doc.promise(10, "- work: its number", NO_WORK);
        Edge.numbered(() -> works(3), "bar", 3, (x, work) -> x.bar(work, 1));
        Doc.promise(10, "- days: 0 to 1000, 0 for none", "Throws IllegalArgumentException if days is out of range");
        Supplier<FreePort> barred = Scenes.after(Scenes::sold, x -> x.bar(0, 7));
        Edge.ranged(barred, "days", 0, 1000, (x, days) -> x.bar(0, days));
        FreePort opened = barred.get();
        opened.bar(0, 0);
        Due.is("none", 0, opened.ofWork(0, 3));
        Due.is("nothing is barred", 0, opened.bars(1, 1, SECOND, 0));
        opened.bar(0, 1);
        Due.is("one", 1, opened.ofWork(0, 3));
        Due.is("barred", FreePort.BARRED, opened.bars(1, 1, SECOND, 0));
    }

    private static void seal() {
        Doc.promise(11, "Seals a work, or opens it.", "Returns whether it was.", "- is: whether it is sealed then");
        FreePort port = Scenes.fresh();
        Due.is("opened, as it was open", false, port.seal(0, false));
        Due.is("sealed", false, port.seal(0, true));
        Due.is("sealed again", true, port.seal(0, true));
        Due.is("it is", 1, port.ofWork(0, 2));
        Due.is("opened", true, port.seal(0, false));
        Due.is("it is not", 0, port.ofWork(0, 2));
        Doc.promise(11, "- work: its number", NO_WORK);
        Edge.numbered(() -> works(3), "open", 3, (x, work) -> x.seal(work, false));
        Edge.numbered(() -> works(3), "seal", 3, (x, work) -> x.seal(work, true));
        Doc.promise(11, "Throws IllegalStateException if it is to be sealed, and is not in the land 0");
        Due.is("in the land 0", false, Scenes.fresh().seal(0, true));
        for (int land = 1; land < 4; land++) {
            int away = land;
            Supplier<FreePort> there = Scenes.after(Scenes::fresh, x -> x.bring(0, away));
            Due.notNow(there, "in the land " + land, x -> x.seal(0, true));
            Due.is("opened in the land " + land, false, there.get().seal(0, false));
        }
    }

    private static void bring() {
        Doc.promise(12, "Brings a work to a land.", "Returns the land before.");
        FreePort port = works(2);
        Due.is("bring(1, 3)", 1, port.bring(1, 3));
        Due.is("bring(1, 3)", 3, port.bring(1, 3));
        Due.is("bring(1, 0)", 3, port.bring(1, 0));
        Due.is("it is there", 0, port.ofWork(1, 1));
        Doc.promise(12, "- work: its number", "- land: 0 to 3",
            "Throws IndexOutOfBoundsException if there is no such work or land");
        Edge.numbered(() -> works(3), "bring", 3, (x, work) -> x.bring(work, 1));
        Edge.numbered(() -> works(3), "bring to", 4, (x, land) -> x.bring(1, land));
        Doc.promise(12, "Throws IllegalStateException if that is another land, and the work is sealed or has a bar");
        Supplier<FreePort> sealed = Scenes.after(Scenes::fresh, x -> x.seal(0, true));
        Supplier<FreePort> barred = Scenes.after(Scenes::fresh, x -> x.bar(0, 3));
        Supplier<FreePort> both = Scenes.after(sealed, x -> x.bar(0, 3));
        for (int land = 1; land < 4; land++) {
            int away = land;
            Due.notNow(sealed, "sealed to " + land, x -> x.bring(0, away));
            Due.notNow(barred, "barred to " + land, x -> x.bring(0, away));
            Due.notNow(both, "sealed and barred to " + land, x -> x.bring(0, away));
        }
        Due.is("sealed, where it is", 0, sealed.get().bring(0, 0));
        Due.is("barred, where it is", 0, barred.get().bring(0, 0));
        Due.is("both, where it is", 0, both.get().bring(0, 0));
        Due.notNow(Scenes.passed(barred, 2), "on the bar's last day", x -> x.bring(0, 1));
        Due.is("a day later", 0, Scenes.passed(barred, 3).get().bring(0, 1));
        Due.is("opened", 0, Scenes.after(sealed, x -> x.seal(0, false)).get().bring(0, 1));
    }

    private static void list() {
        Doc.promise(13, "Lists a work as looted, from today on.");
        FreePort port = works(2);
        Due.is("not yet", FreePort.NONE, port.ofWork(1, 4));
        port.pass(3);
        port.list(1);
        port.pass(1);
        Due.is("since that day", 3, port.ofWork(1, 4));
        Due.is("not the other", FreePort.NONE, port.ofWork(0, 4));
        Doc.promise(13, "- work: its number", NO_WORK);
        Edge.numbered(() -> works(3), "list", 3, FreePort::list);
        Doc.promise(13, "Throws IllegalStateException if it is listed");
        Due.taken(() -> works(1), "list(0)", x -> x.list(0));
        Supplier<FreePort> listed = Scenes.after(() -> works(1), x -> x.list(0));
        Due.notNow(listed, "list(0) again", x -> x.list(0));
        Due.notNow(Scenes.passed(listed, 1), "list(0) a day later", x -> x.list(0));
    }

    private static void fail() {
        Doc.promise(14, "Lets a party fail.", "Returns of how many lots it was the DEALER.");
        for (int dealt = 0; dealt <= 3; dealt++) {
            FreePort port = works(4);
            for (int lot = 0; lot < 3; lot++) {
                port.consign(lot, lot < dealt ? THIRD : lot == 2 ? FIRST : SECOND, 0, 0, 0);
            }
            Due.is("of " + dealt, dealt, port.fail(THIRD));
            Due.is("it has", 1, port.ofParty(THIRD, 5));
        }
        FreePort ended = Scenes.consigned();
        Scenes.pass(ended, 6);
        Due.is("behind the end too", 1, ended.fail(SECOND));
        Doc.promise(14, "- party: its number", NO_PARTY);
        Edge.numbered(Scenes::fresh, "fail", 4, FreePort::fail);
        Doc.promise(14, "Throws IllegalStateException if it has FAILED");
        Due.is("once", 0, Scenes.sold().fail(FIRST));
        Due.notNow(Scenes.after(Scenes::sold, x -> x.fail(FIRST)), "twice", x -> x.fail(FIRST));
        Due.is("another", 0, Scenes.after(Scenes::sold, x -> x.fail(FIRST)).get().fail(SECOND));
    }
}
