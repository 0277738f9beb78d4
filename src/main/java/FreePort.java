/** Works in crates, owned by sixtieths: their sales, bars, loans, words and papers. */
public final class FreePort {
    /** There is none. */
    public static final int NONE = -1;
    /** By what a sale is barred. */
    public static final int FAILED = 1, SHORT = 2, CONSIGNED = 3, BARRED = 4, POOR = 5, PUNISHED = 6, FULL = 7;

    private static final int NO_BAR = 0;
    private static final int MAX_PARTIES = 10;
    private static final int MAX_WORKS = 12;
    private static final int MAX_LOTS = 60;
    private static final int MAX_LOANS = 20;
    private static final int MAX_WORDS = 50;
    private static final int LANDS = 4;
    private static final int SEALING_LAND = 0;
    private static final int WHOLE = 60;
    private static final int MAX_SUM = 1000000;
    private static final int MAX_DAYS = 1000;
    private static final int LAST_DAY = 20000;
    private static final int FIRST_YEAR = 1900;
    private static final int LAST_YEAR = 2000;
    private static final int MAX_WEIGHT = 9;
    private static final int MAX_RIGHT = 20;
    private static final int MAX_COMMISSION = 50;
    private static final int MAX_INTEREST = 100;
    private static final int FLIP_DAYS = 100;
    private static final int CHAIN_DAYS = 7;

    private final Party[] parties = new Party[MAX_PARTIES];
    private final Work[] works = new Work[MAX_WORKS];
    private final Lot[] lots = new Lot[MAX_LOTS];
    private final Loan[] loans = new Loan[MAX_LOANS];
    private final int[] rightPercents = new int[LANDS];
    private int partyCount;
    private int workCount;
    private int lotCount;
    private int loanCount;
    private int today;

    public FreePort() {
    }

    // ---- parties, works

    public int party(int money, int land)
            throws IndexOutOfBoundsException, IllegalArgumentException, IllegalStateException {
        requireLand(land);
        requireRange(money, 0, MAX_SUM);
        requireState(partyCount < MAX_PARTIES);
        Party added = new Party(partyCount, land, money);
        parties[partyCount] = added;
        partyCount++;
        return added.number;
    }

    public int work(int artist, int value)
            throws IndexOutOfBoundsException, IllegalArgumentException, IllegalStateException {
        Party maker = partyAt(artist);
        requireRange(value, 0, MAX_SUM);
        requireState(workCount < MAX_WORKS && lotCount < MAX_LOTS);
        Work added = new Work(workCount, maker, value);
        works[workCount] = added;
        workCount++;
        keepLot(new Lot(lotCount, added, maker, WHOLE, null, null, null));
        return added.number;
    }

    public int value(int work, int value) throws IndexOutOfBoundsException, IllegalArgumentException {
        Work valued = workAt(work);
        requireRange(value, 0, MAX_SUM);
        int before = valued.toldValue;
        valued.toldValue = value;
        return before;
    }

    public int pass(int days) throws IllegalArgumentException, IllegalStateException {
        requireRange(days, 1, MAX_DAYS);
        requireState(today + days <= LAST_DAY);
        today += days;
        return today;
    }

    public int weight(int expert, int weight) throws IndexOutOfBoundsException, IllegalArgumentException {
        Party weighed = partyAt(expert);
        requireRange(weight, 0, MAX_WEIGHT);
        int before = weighed.weight;
        weighed.weight = weight;
        return before;
    }

    public int word(int expert, int work, boolean is) throws IndexOutOfBoundsException, IllegalStateException {
        Party speaker = partyAt(expert);
        Work judged = workAt(work);
        requireState(judged.wordCount < MAX_WORDS);
        judged.words[judged.wordCount] = new Word(speaker, today, is);
        judged.wordCount++;
        return judged.wordCount;
    }

    public void paper(int work, int from, int to) throws IndexOutOfBoundsException, IllegalArgumentException {
        Work traced = workAt(work);
        requireYears(from, to);
        for (int year = from; year <= to; year++) {
            traced.knownYears[year - FIRST_YEAR] = true;
        }
    }

    public int right(int land, int percent) throws IndexOutOfBoundsException, IllegalArgumentException {
        requireLand(land);
        requireRange(percent, 0, MAX_RIGHT);
        int before = rightPercents[land];
        rightPercents[land] = percent;
        return before;
    }

    public int bar(int work, int days) throws IndexOutOfBoundsException, IllegalArgumentException {
        Work held = workAt(work);
        requireRange(days, 0, MAX_DAYS);
        int left = held.barDaysLeft(today);
        held.barEnd = today + days;
        return left;
    }

    public boolean seal(int work, boolean is) throws IndexOutOfBoundsException, IllegalStateException {
        Work crated = workAt(work);
        requireState(!is || crated.land == SEALING_LAND);
        boolean before = crated.isSealed;
        crated.isSealed = is;
        return before;
    }

    public int bring(int work, int land) throws IndexOutOfBoundsException, IllegalStateException {
        Work moved = workAt(work);
        requireLand(land);
        boolean stuck = moved.isSealed || moved.barDaysLeft(today) > 0;
        requireState(land == moved.land || !stuck);
        int before = moved.land;
        moved.land = land;
        return before;
    }

    public void list(int work) throws IndexOutOfBoundsException, IllegalStateException {
        Work looted = workAt(work);
        requireState(looted.listingDay == NONE);
        looted.listingDay = today;
    }

    public int fail(int party) throws IndexOutOfBoundsException, IllegalStateException {
        Party failing = partyAt(party);
        requireState(!failing.hasFailed);
        failing.hasFailed = true;
        int dealt = 0;
        for (int i = 0; i < lotCount; i++) {
            if (lots[i].dealer() == failing) {
                lots[i].consignment = null;
                dealt++;
            }
        }
        return dealt;
    }

    // ---- sales

    public int sell(int lot, int parts, int buyer, int price)
            throws IndexOutOfBoundsException, IllegalArgumentException, IllegalStateException {
        Lot sold = lotAt(lot);
        Party taker = partyAt(buyer);
        requireOffer(sold, parts, taker, price);
        requireState(barOfSale(sold, parts, taker, price) == NO_BAR);
        return carryOut(sold, parts, taker, price, sold.holder, 0);
    }

    public void consign(int lot, int dealer, int floor, int percent, int days)
            throws IndexOutOfBoundsException, IllegalArgumentException, IllegalStateException {
        Lot given = lotAt(lot);
        Party taker = partyAt(dealer);
        requireRange(floor, 0, MAX_SUM);
        requireRange(percent, 0, MAX_COMMISSION);
        requireRange(days, 0, MAX_DAYS);
        requireOther(taker, given.holder);
        requireState(given.parts > 0 && given.consignment == null);
        requireState(!given.holder.hasFailed && !taker.hasFailed);
        given.consignment = new Consignment(taker, floor, percent, today + days);
    }

    public int back(int lot) throws IndexOutOfBoundsException, IllegalStateException {
        Lot taken = lotAt(lot);
        Consignment terms = taken.consignment;
        if (terms == null) {
            throw new IllegalStateException("no dealer");
        }
        requireState(today > terms.end);
        taken.consignment = null;
        return terms.dealer.number;
    }

    public int deal(int lot, int buyer, int price)
            throws IndexOutOfBoundsException, IllegalArgumentException, IllegalStateException {
        Lot dealt = lotAt(lot);
        Party taker = partyAt(buyer);
        requireRange(price, 0, MAX_SUM);
        requireOther(taker, dealt.holder);
        Consignment terms = dealt.consignment;
        if (terms == null) {
            throw new IllegalStateException("no dealer");
        }
        requireState(price >= terms.floor && today <= terms.end);
        requireState(barOfDeal(dealt, terms.dealer, taker, price) == NO_BAR);
        dealt.consignment = null;
        int commission = price * terms.percent / 100;
        return carryOut(dealt, dealt.parts, taker, price, terms.dealer, commission);
    }

    public boolean tell(int lot, int who, int whom) throws IndexOutOfBoundsException, IllegalStateException {
        Sale sale = lotAt(lot).sale;
        Party teller = partyAt(who);
        Party hearer = partyAt(whom);
        if (sale == null) {
            throw new IllegalStateException("came by no sale");
        }
        requireState(sale.isKnownTo(teller));
        boolean before = sale.isKnownTo(hearer);
        sale.learn(hearer);
        return before;
    }

    public int restore(int lot, int heir) throws IndexOutOfBoundsException, IllegalStateException {
        Lot returned = lotAt(lot);
        Party taker = partyAt(heir);
        requireState(returned.parts > 0 && !taker.hasFailed && cameSinceListing(returned));
        Party before = returned.holder;
        returned.takeOver(taker);
        return before.number;
    }

    // ---- loans

    public int lend(int lot, int lender, int amount, int percent, int days)
            throws IndexOutOfBoundsException, IllegalArgumentException, IllegalStateException {
        Lot pledged = lotAt(lot);
        Party giver = partyAt(lender);
        Party borrower = pledged.holder;
        requireRange(amount, 1, MAX_SUM);
        requireRange(percent, 0, MAX_INTEREST);
        requireRange(days, 1, MAX_DAYS);
        requireOther(giver, borrower);
        requireState(pledged.loan == null && pledged.consignment == null);
        requireState(!borrower.hasFailed && !giver.hasFailed && giver.money >= amount);
        requireState(2 * amount <= pledged.worth(today) && loanCount < MAX_LOANS);
        Loan made = new Loan(loanCount, borrower, giver, amount, percent, today, today + days);
        loans[loanCount] = made;
        loanCount++;
        pledged.loan = made;
        pay(giver, borrower, amount);
        return made.number;
    }

    public int repay(int loan) throws IndexOutOfBoundsException, IllegalStateException {
        Loan paid = loanAt(loan);
        int owed = paid.owed(today);
        requireState(!paid.isGone && !paid.borrower.hasFailed && paid.borrower.money >= owed);
        pay(paid.borrower, paid.lender, owed);
        release(paid);
        return owed;
    }

    public int seize(int loan) throws IndexOutOfBoundsException, IllegalStateException {
        Loan called = loanAt(loan);
        requireState(!called.lender.hasFailed && isSeizable(called));
        for (int i = 0; i < lotCount; i++) {
            if (lots[i].loan == called) {
                lots[i].takeOver(called.lender);
            }
        }
        return release(called);
    }

    public int assign(int loan, int party, int price)
            throws IndexOutOfBoundsException, IllegalArgumentException, IllegalStateException {
        Loan passed = loanAt(loan);
        Party taker = partyAt(party);
        Party before = passed.lender;
        requireRange(price, 0, MAX_SUM);
        requireOther(taker, before);
        requireOther(taker, passed.borrower);
        requireState(!passed.isGone && !before.hasFailed && !taker.hasFailed && taker.money >= price);
        pay(taker, before, price);
        passed.lender = taker;
        return before.number;
    }

    // ---- what is asked

    public int bars(int lot, int parts, int buyer, int price)
            throws IndexOutOfBoundsException, IllegalArgumentException {
        Lot sold = lotAt(lot);
        Party taker = partyAt(buyer);
        requireOffer(sold, parts, taker, price);
        return barOfSale(sold, parts, taker, price);
    }

    public int barredBy(int lot, int parts, int buyer, int price)
            throws IndexOutOfBoundsException, IllegalArgumentException {
        Lot sold = lotAt(lot);
        Party taker = partyAt(buyer);
        requireOffer(sold, parts, taker, price);
        switch (barOfSale(sold, parts, taker, price)) {
            case FAILED:
                return sold.holder.hasFailed ? sold.holder.number : taker.number;
            case SHORT:
                return parts - sold.parts;
            case CONSIGNED:
                return numberOf(sold.dealer());
            case BARRED:
                return sold.work.barDaysLeft(today);
            case POOR:
                return price - taker.money;
            case PUNISHED:
                return sold.work.artist.number;
            case FULL:
                return MAX_LOTS;
            default:
                return NONE;
        }
    }

    public int price(int lot, int party) throws IndexOutOfBoundsException {
        Sale sale = lotAt(lot).sale;
        Party asker = partyAt(party);
        return sale != null && sale.isKnownTo(asker) ? sale.price : NONE;
    }

    public int ofParty(int party, int what) throws IndexOutOfBoundsException, IllegalArgumentException {
        Party asked = partyAt(party);
        requireRange(what, 0, 6);
        switch (what) {
            case 0:
                return asked.money;
            case 1:
                return partsHeldBy(asked);
            case 2:
                return owedBy(asked);
            case 3:
                return owedTo(asked);
            case 4:
                return worthHeldBy(asked);
            case 5:
                return flag(asked.hasFailed);
            default:
                return Integer.bitCount(asked.punishers);
        }
    }

    public int ofWork(int work, int what) throws IndexOutOfBoundsException, IllegalArgumentException {
        Work asked = workAt(work);
        requireRange(what, 0, 5);
        switch (what) {
            case 0:
                return asked.valueOn(today);
            case 1:
                return asked.land;
            case 2:
                return flag(asked.isSealed);
            case 3:
                return asked.barDaysLeft(today);
            case 4:
                return asked.listingDay;
            default:
                return lotsWithParts(asked);
        }
    }

    public int ofLot(int lot, int what) throws IndexOutOfBoundsException, IllegalArgumentException {
        Lot asked = lotAt(lot);
        requireRange(what, 0, 8);
        switch (what) {
            case 0:
                return asked.work.number;
            case 1:
                return asked.holder.number;
            case 2:
                return asked.parts;
            case 3:
                return asked.loan == null ? NONE : asked.loan.number;
            case 4:
                return numberOf(asked.dealer());
            case 5:
                return asked.from == null ? NONE : asked.from.number;
            case 6:
                return asked.sale == null ? NONE : asked.sale.day;
            case 7:
                return asked.worth(today);
            default:
                return asked.chain();
        }
    }

    public int ofLoan(int loan, int what) throws IndexOutOfBoundsException, IllegalArgumentException {
        Loan asked = loanAt(loan);
        requireRange(what, 0, 5);
        switch (what) {
            case 0:
                return asked.borrower.number;
            case 1:
                return asked.lender.number;
            case 2:
                return asked.owed(today);
            case 3:
                return asked.due;
            case 4:
                return flag(isSeizable(asked));
            default:
                return flag(asked.isGone);
        }
    }

    public int doubt(int work, int day) throws IndexOutOfBoundsException, IllegalArgumentException {
        Work asked = workAt(work);
        requireRange(day, 0, today);
        return asked.doubtOn(day);
    }

    public int gaps(int work, int from, int to) throws IndexOutOfBoundsException, IllegalArgumentException {
        Work asked = workAt(work);
        requireYears(from, to);
        int unknown = 0;
        for (int year = from; year <= to; year++) {
            if (!asked.knownYears[year - FIRST_YEAR]) {
                unknown++;
            }
        }
        return unknown;
    }

    public long index() {
        long sum = 0;
        int repeats = 0;
        for (int i = 0; i < lotCount; i++) {
            Sale sale = lots[i].sale;
            Sale ahead = lots[i].saleAhead();
            if (sale != null && ahead != null && sale.price > 0 && ahead.price > 0) {
                sum += sale.riseSince(ahead);
                repeats++;
            }
        }
        return repeats > 0 ? sum / repeats : NONE;
    }

    // ---- what the calls require

    private Party partyAt(int number) {
        if (number < 0 || number >= partyCount) {
            throw new IndexOutOfBoundsException("no such party");
        }
        return parties[number];
    }

    private Work workAt(int number) {
        if (number < 0 || number >= workCount) {
            throw new IndexOutOfBoundsException("no such work");
        }
        return works[number];
    }

    private Lot lotAt(int number) {
        if (number < 0 || number >= lotCount) {
            throw new IndexOutOfBoundsException("no such lot");
        }
        return lots[number];
    }

    private Loan loanAt(int number) {
        if (number < 0 || number >= loanCount) {
            throw new IndexOutOfBoundsException("no such loan");
        }
        return loans[number];
    }

    private static void requireLand(int land) {
        if (land < 0 || land >= LANDS) {
            throw new IndexOutOfBoundsException("no such land");
        }
    }

    private static void requireRange(int number, int least, int most) {
        if (number < least || number > most) {
            throw new IllegalArgumentException("out of its range");
        }
    }

    private static void requireYears(int from, int to) {
        requireRange(from, FIRST_YEAR, LAST_YEAR);
        requireRange(to, from, LAST_YEAR);
    }

    private static void requireOther(Party party, Party than) {
        if (party == than) {
            throw new IllegalArgumentException("must be another party");
        }
    }

    private static void requireOffer(Lot lot, int parts, Party buyer, int price) {
        requireRange(parts, 1, WHOLE);
        requireRange(price, 0, MAX_SUM);
        requireOther(buyer, lot.holder);
    }

    private static void requireState(boolean holds) {
        if (!holds) {
            throw new IllegalStateException("not possible now");
        }
    }

    // ---- sales

    private int barOfSale(Lot lot, int parts, Party buyer, int price) {
        if (lot.holder.hasFailed || buyer.hasFailed) {
            return FAILED;
        }
        if (lot.parts < parts) {
            return SHORT;
        }
        if (lot.consignment != null) {
            return CONSIGNED;
        }
        return barOfAnySale(lot, buyer, price);
    }

    private int barOfDeal(Lot lot, Party dealer, Party buyer, int price) {
        if (dealer.hasFailed || lot.holder.hasFailed || buyer.hasFailed) {
            return FAILED;
        }
        return barOfAnySale(lot, buyer, price);
    }

    private int barOfAnySale(Lot lot, Party buyer, int price) {
        Work work = lot.work;
        if (work.barDaysLeft(today) > 0 && buyer.land != work.land) {
            return BARRED;
        }
        if (buyer.money < price) {
            return POOR;
        }
        if (lot.isHeldByArtist() && buyer.isPunishedBy(work.artist)) {
            return PUNISHED;
        }
        return lotCount < MAX_LOTS ? NO_BAR : FULL;
    }

    private int carryOut(Lot lot, int parts, Party buyer, int price, Party seller, int commission) {
        int artistShare = shareOfArtist(lot, price);
        pay(buyer, lot.work.artist, artistShare);
        pay(buyer, seller, commission);
        pay(buyer, lot.holder, price - artistShare - commission);
        if (lot.isFlippedOn(today)) {
            lot.holder.punishBy(lot.work.artist);
        }
        Sale sale = new Sale(today, price, parts, lot.isHeldByArtist());
        sale.learn(buyer);
        sale.learn(seller);
        lot.parts -= parts;
        return keepLot(new Lot(lotCount, lot.work, buyer, parts, lot.loan, lot, sale));
    }

    private int shareOfArtist(Lot lot, int price) {
        return lot.isHeldByArtist() ? 0 : price * rightOf(lot.holder.land) / 100;
    }

    private int rightOf(int land) {
        return land >= 0 && land < LANDS ? rightPercents[land] : 0;
    }

    /** The callers have seen that there is room; the index is looked at all the same. */
    private int keepLot(Lot lot) {
        if (lotCount < MAX_LOTS) {
            lots[lotCount] = lot;
            lotCount++;
        }
        return lot.number;
    }

    private static void pay(Party payer, Party payee, int sum) {
        payer.money -= sum;
        payee.money += sum;
    }

    private static boolean cameSinceListing(Lot lot) {
        int listed = lot.work.listingDay;
        return listed != NONE && lot.sale != null && lot.sale.day >= listed;
    }

    // ---- loans

    private boolean isSeizable(Loan loan) {
        if (loan.isGone) {
            return false;
        }
        return today > loan.due || 10L * loan.owed(today) > 7L * worthUnder(loan);
    }

    private int worthUnder(Loan loan) {
        int worth = 0;
        for (int i = 0; i < lotCount; i++) {
            if (lots[i].loan == loan) {
                worth += lots[i].worth(today);
            }
        }
        return worth;
    }

    private int release(Loan loan) {
        loan.isGone = true;
        int freed = 0;
        for (int i = 0; i < lotCount; i++) {
            if (lots[i].loan == loan) {
                lots[i].loan = null;
                freed++;
            }
        }
        return freed;
    }

    private int owedBy(Party borrower) {
        int owed = 0;
        for (int i = 0; i < loanCount; i++) {
            if (loans[i].borrower == borrower) {
                owed += loans[i].owed(today);
            }
        }
        return owed;
    }

    private int owedTo(Party lender) {
        int owed = 0;
        for (int i = 0; i < loanCount; i++) {
            if (loans[i].lender == lender) {
                owed += loans[i].owed(today);
            }
        }
        return owed;
    }

    // ---- what is asked

    private int partsHeldBy(Party holder) {
        int parts = 0;
        for (int i = 0; i < lotCount; i++) {
            if (lots[i].holder == holder) {
                parts += lots[i].parts;
            }
        }
        return parts;
    }

    private int worthHeldBy(Party holder) {
        int worth = 0;
        for (int i = 0; i < lotCount; i++) {
            if (lots[i].holder == holder) {
                worth += lots[i].worth(today);
            }
        }
        return worth;
    }

    private int lotsWithParts(Work work) {
        int count = 0;
        for (int i = 0; i < lotCount; i++) {
            if (lots[i].work == work && lots[i].parts > 0) {
                count++;
            }
        }
        return count;
    }

    private static int flag(boolean is) {
        return is ? 1 : 0;
    }

    private static int numberOf(Party party) {
        return party == null ? NONE : party.number;
    }

    private static final class Party {
        private final int number;
        private final int land;
        private int money;
        private int weight;
        private boolean hasFailed;
        /** The artists that punish it, a bit for each by its number. */
        private int punishers;

        private Party(int number, int land, int money) {
            this.number = number;
            this.land = land;
            this.money = money;
        }

        private void punishBy(Party artist) {
            punishers |= 1 << artist.number;
        }

        private boolean isPunishedBy(Party artist) {
            return (punishers & (1 << artist.number)) != 0;
        }
    }

    private static final class Word {
        private final Party expert;
        private final int day;
        private final boolean saysRight;

        private Word(Party expert, int day, boolean saysRight) {
            this.expert = expert;
            this.day = day;
            this.saysRight = saysRight;
        }
    }

    private static final class Work {
        private final int number;
        private final Party artist;
        private final Word[] words = new Word[MAX_WORDS];
        private final boolean[] knownYears = new boolean[LAST_YEAR - FIRST_YEAR + 1];
        private int wordCount;
        private int toldValue;
        private int land;
        private boolean isSealed;
        private int barEnd;
        private int listingDay = NONE;

        private Work(int number, Party artist, int toldValue) {
            this.number = number;
            this.artist = artist;
            this.toldValue = toldValue;
            this.land = artist.land;
        }

        private int barDaysLeft(int day) {
            return Math.max(0, barEnd - day);
        }

        private int valueOn(int day) {
            return doubtOn(day) > 0 ? toldValue / 10 : toldValue;
        }

        /** Goes from the latest word to the first, so that of each expert the first one met counts. */
        private int doubtOn(int day) {
            int sum = 0;
            int heard = 0;
            for (int i = wordCount - 1; i >= 0; i--) {
                Word word = words[i];
                int expertBit = 1 << word.expert.number;
                if (word.day <= day && (heard & expertBit) == 0) {
                    heard |= expertBit;
                    sum += word.saysRight ? -word.expert.weight : word.expert.weight;
                }
            }
            return sum;
        }
    }

    private static final class Lot {
        private final int number;
        private final Work work;
        /** The lot from which it came; null without one. */
        private final Lot from;
        private Party holder;
        private int parts;
        /** Null without one. */
        private Loan loan;
        /** Null as long as it has no dealer. */
        private Consignment consignment;
        /** Null if it came, or is taken to have come, by none. */
        private Sale sale;

        private Lot(int number, Work work, Party holder, int parts, Loan loan, Lot from, Sale sale) {
            this.number = number;
            this.work = work;
            this.holder = holder;
            this.parts = parts;
            this.loan = loan;
            this.from = from;
            this.sale = sale;
        }

        private Party dealer() {
            return consignment == null ? null : consignment.dealer;
        }

        private boolean isHeldByArtist() {
            return holder == work.artist;
        }

        private boolean isFlippedOn(int day) {
            return !isHeldByArtist() && sale != null && sale.isByArtist && day - sale.day <= FLIP_DAYS;
        }

        private void takeOver(Party taker) {
            holder = taker;
            consignment = null;
            sale = null;
        }

        private int worth(int day) {
            return work.valueOn(day) * parts / WHOLE;
        }

        private Sale saleAhead() {
            return from == null ? null : from.sale;
        }

        private int chain() {
            int sales = 0;
            Lot link = this;
            while (link != null && link.sale != null) {
                sales++;
                Sale ahead = link.saleAhead();
                boolean isClose = ahead != null && link.sale.day - ahead.day <= CHAIN_DAYS;
                link = isClose ? link.from : null;
            }
            return sales;
        }
    }

    private static final class Sale {
        private final int day;
        private final int price;
        /** Those that went by it: the lot may have fewer by now. */
        private final int parts;
        /** Whether the artist held the lot at it: that lot may be somebody else's by now. */
        private final boolean isByArtist;
        /** Who knows the price, a bit for each party by its number. */
        private int knowers;

        private Sale(int day, int price, int parts, boolean isByArtist) {
            this.day = day;
            this.price = price;
            this.parts = parts;
            this.isByArtist = isByArtist;
        }

        private void learn(Party party) {
            knowers |= 1 << party.number;
        }

        private boolean isKnownTo(Party party) {
            return (knowers & (1 << party.number)) != 0;
        }

        private long riseSince(Sale ahead) {
            long divisor = (long) ahead.price * parts;
            return divisor == 0 ? 0 : 1000L * price * ahead.parts / divisor;
        }
    }

    private static final class Consignment {
        private final Party dealer;
        private final int floor;
        private final int percent;
        private final int end;

        private Consignment(Party dealer, int floor, int percent, int end) {
            this.dealer = dealer;
            this.floor = floor;
            this.percent = percent;
            this.end = end;
        }
    }

    private static final class Loan {
        private final int number;
        private final Party borrower;
        private final int amount;
        private final int percent;
        private final int day;
        private final int due;
        private Party lender;
        private boolean isGone;

        private Loan(int number, Party borrower, Party lender, int amount, int percent, int day, int due) {
            this.number = number;
            this.borrower = borrower;
            this.lender = lender;
            this.amount = amount;
            this.percent = percent;
            this.day = day;
            this.due = due;
        }

        private int owed(int today) {
            if (isGone) {
                return 0;
            }
            long interest = (long) amount * percent * (today - day) / 10000;
            return amount + (int) interest;
        }
    }
}
