import java.math.BigInteger;
import java.util.ArrayList;
import java.util.HashSet;
import java.util.LinkedHashMap;
import java.util.List;
import java.util.Map;
import java.util.Set;

/**
 * A second FreePort, written from the document for plainness alone: flat rows of named numbers, and each answer
 * worked out anew from what was told. ModelTest lets both answer the same calls.
 */
final class Model {
    private static final int NONE = -1;

    private final List<Map<String, Integer>> parties = new ArrayList<>();
    private final List<Map<String, Integer>> works = new ArrayList<>();
    private final List<Map<String, Integer>> lots = new ArrayList<>();
    private final List<Map<String, Integer>> loans = new ArrayList<>();
    private final List<Map<String, Integer>> sales = new ArrayList<>();
    private final List<int[]> words = new ArrayList<>();
    private final List<int[]> papers = new ArrayList<>();
    private final Map<Integer, Integer> rights = new LinkedHashMap<>();
    private final Set<String> knows = new HashSet<>();
    private final Set<String> punishes = new HashSet<>();
    private final Set<String> sealed = new HashSet<>();
    private final Set<String> failed = new HashSet<>();
    private final Set<String> gone = new HashSet<>();
    private int day = 0;

    // ---- the checks, in the order of the throws clauses

    private static void there(boolean holds) {
        if (!holds) {
            throw new IndexOutOfBoundsException();
        }
    }

    private static void ranged(boolean holds) {
        if (!holds) {
            throw new IllegalArgumentException();
        }
    }

    private static void possible(boolean holds) {
        if (!holds) {
            throw new IllegalStateException();
        }
    }

    private static boolean in(int number, int least, int most) {
        return least <= number && number <= most;
    }

    private static boolean has(List<?> rows, int number) {
        return in(number, 0, rows.size() - 1);
    }

    private static Map<String, Integer> row(Object... cells) {
        Map<String, Integer> made = new LinkedHashMap<>();
        for (int i = 0; i < cells.length; i += 2) {
            made.put((String) cells[i], (Integer) cells[i + 1]);
        }
        return made;
    }

    private int lotTold(int lot, String what) {
        return lots.get(lot).get(what);
    }

    private int workTold(int work, String what) {
        return works.get(work).get(what);
    }

    private int partyTold(int party, String what) {
        return parties.get(party).get(what);
    }

    private int loanTold(int loan, String what) {
        return loans.get(loan).get(what);
    }

    private boolean hasFailed(int party) {
        return failed.contains("" + party);
    }

    private void gain(int party, int sum) {
        parties.get(party).merge("money", sum, Integer::sum);
    }

    // ---- for choosing calls that come near an edge

    int today() {
        return day;
    }

    int count(String question) {
        switch (question) {
            case "ofParty": return parties.size();
            case "ofWork": return works.size();
            case "ofLot": return lots.size();
            default: return loans.size();
        }
    }

    int partsUnder(int loan) {
        int parts = 0;
        for (Map<String, Integer> lot : lots) {
            parts += lot.get("loan") == loan ? lot.get("parts") : 0;
        }
        return parts;
    }

    int floor(int lot) {
        return has(lots, lot) ? lots.get(lot).getOrDefault("floor", 0) : 0;
    }

    // ---- parties, works

    public int party(int money, int land) {
        there(in(land, 0, 3));
        ranged(in(money, 0, 1000000));
        possible(parties.size() != 10);
        parties.add(row("money", money, "land", land, "weight", 0));
        return parties.size() - 1;
    }

    public int work(int artist, int value) {
        there(has(parties, artist));
        ranged(in(value, 0, 1000000));
        possible(works.size() != 12);
        possible(lots.size() != 60);
        works.add(row("artist", artist, "value", value, "land", partyTold(artist, "land"), "bar", 0, "listed", NONE));
        lots.add(row("work", works.size() - 1, "holder", artist, "parts", 60, "loan", NONE, "dealer", NONE,
            "from", NONE, "sale", NONE));
        return works.size() - 1;
    }

    public int value(int work, int value) {
        there(has(works, work));
        ranged(in(value, 0, 1000000));
        return works.get(work).put("value", value);
    }

    public int pass(int days) {
        ranged(in(days, 1, 1000));
        possible(day + days < 20001);
        return day = day + days;
    }

    public int weight(int expert, int weight) {
        there(has(parties, expert));
        ranged(in(weight, 0, 9));
        return parties.get(expert).put("weight", weight);
    }

    public int word(int expert, int work, boolean is) {
        there(has(parties, expert));
        there(has(works, work));
        int told = 0;
        for (int[] word : words) {
            told += word[1] == work ? 1 : 0;
        }
        possible(told != 50);
        words.add(new int[] {expert, work, day, is ? -1 : 1});
        return told + 1;
    }

    public void paper(int work, int from, int to) {
        there(has(works, work));
        ranged(in(from, 1900, 2000));
        ranged(in(to, from, 2000));
        papers.add(new int[] {work, from, to});
    }

    public int right(int land, int percent) {
        there(in(land, 0, 3));
        ranged(in(percent, 0, 20));
        Integer before = rights.put(land, percent);
        return before == null ? 0 : before;
    }

    public int bar(int work, int days) {
        there(has(works, work));
        ranged(in(days, 0, 1000));
        int left = barLeft(work);
        works.get(work).put("bar", day + days);
        return left;
    }

    private int barLeft(int work) {
        int left = workTold(work, "bar") - day;
        return left > 0 ? left : 0;
    }

    public boolean seal(int work, boolean is) {
        there(has(works, work));
        if (is) {
            possible(workTold(work, "land") == 0);
            return !sealed.add("" + work);
        }
        return sealed.remove("" + work);
    }

    public int bring(int work, int land) {
        there(has(works, work));
        there(in(land, 0, 3));
        int before = workTold(work, "land");
        if (land != before) {
            possible(!sealed.contains("" + work));
            possible(barLeft(work) == 0);
        }
        works.get(work).put("land", land);
        return before;
    }

    public void list(int work) {
        there(has(works, work));
        possible(workTold(work, "listed") == NONE);
        works.get(work).put("listed", day);
    }

    public int fail(int party) {
        there(has(parties, party));
        possible(failed.add("" + party));
        int count = 0;
        for (Map<String, Integer> lot : lots) {
            if (lot.get("dealer") == party) {
                lot.put("dealer", NONE);
                count++;
            }
        }
        return count;
    }

    // ---- sales

    /** All bars that apply, each with its number, in their order. */
    private List<int[]> barsOf(int lot, int parts, int buyer, int price, int dealer) {
        List<int[]> all = new ArrayList<>();
        int holder = lotTold(lot, "holder");
        int work = lotTold(lot, "work");
        int artist = workTold(work, "artist");
        for (int who : new int[] {dealer, holder, buyer}) {
            if (who != NONE && hasFailed(who)) {
                all.add(new int[] {1, who});
            }
        }
        if (parts > lotTold(lot, "parts")) {
            all.add(new int[] {2, parts - lotTold(lot, "parts")});
        }
        if (dealer == NONE && lotTold(lot, "dealer") != NONE) {
            all.add(new int[] {3, lotTold(lot, "dealer")});
        }
        if (barLeft(work) != 0 && partyTold(buyer, "land") != workTold(work, "land")) {
            all.add(new int[] {4, barLeft(work)});
        }
        if (price > partyTold(buyer, "money")) {
            all.add(new int[] {5, price - partyTold(buyer, "money")});
        }
        if (artist == holder && punishes.contains(artist + ">" + buyer)) {
            all.add(new int[] {6, artist});
        }
        if (lots.size() == 60) {
            all.add(new int[] {7, 60});
        }
        return all;
    }

    private void offered(int lot, int parts, int buyer, int price) {
        there(has(lots, lot));
        there(has(parties, buyer));
        ranged(in(parts, 1, 60));
        ranged(in(price, 0, 1000000));
        ranged(lotTold(lot, "holder") != buyer);
    }

    public int sell(int lot, int parts, int buyer, int price) {
        offered(lot, parts, buyer, price);
        possible(barsOf(lot, parts, buyer, price, NONE).isEmpty());
        return sold(lot, parts, buyer, price, NONE, 0);
    }

    private int sold(int lot, int parts, int buyer, int price, int dealer, int percent) {
        int holder = lotTold(lot, "holder");
        int artist = workTold(lotTold(lot, "work"), "artist");
        int toDealer = price * percent / 100;
        int toArtist = 0;
        if (holder != artist) {
            toArtist = price * rights.getOrDefault(partyTold(holder, "land"), 0) / 100;
            int came = lotTold(lot, "sale");
            if (came != NONE && sales.get(came).get("seller") == artist && day <= sales.get(came).get("day") + 100) {
                punishes.add(artist + ">" + holder);
            }
        }
        gain(buyer, -price);
        gain(artist, toArtist);
        if (dealer != NONE) {
            gain(dealer, toDealer);
        }
        gain(holder, price - toArtist - toDealer);
        sales.add(row("day", day, "price", price, "parts", parts, "seller", holder));
        int sale = sales.size() - 1;
        knows.add(sale + ":" + buyer);
        knows.add(sale + ":" + (dealer == NONE ? holder : dealer));
        lots.get(lot).merge("parts", -parts, Integer::sum);
        lots.add(row("work", lotTold(lot, "work"), "holder", buyer, "parts", parts, "loan", lotTold(lot, "loan"),
            "dealer", NONE, "from", lot, "sale", sale));
        return lots.size() - 1;
    }

    public void consign(int lot, int dealer, int floor, int percent, int days) {
        there(has(lots, lot));
        there(has(parties, dealer));
        ranged(in(floor, 0, 1000000));
        ranged(in(percent, 0, 50));
        ranged(in(days, 0, 1000));
        int holder = lotTold(lot, "holder");
        ranged(dealer != holder);
        possible(lotTold(lot, "parts") != 0);
        possible(lotTold(lot, "dealer") == NONE);
        possible(!hasFailed(holder));
        possible(!hasFailed(dealer));
        lots.get(lot).putAll(row("dealer", dealer, "floor", floor, "percent", percent, "end", day + days));
    }

    public int back(int lot) {
        there(has(lots, lot));
        possible(lotTold(lot, "dealer") != NONE);
        possible(lotTold(lot, "end") < day);
        return lots.get(lot).put("dealer", NONE);
    }

    public int deal(int lot, int buyer, int price) {
        there(has(lots, lot));
        there(has(parties, buyer));
        ranged(in(price, 0, 1000000));
        ranged(lotTold(lot, "holder") != buyer);
        int dealer = lotTold(lot, "dealer");
        possible(dealer != NONE);
        possible(lotTold(lot, "floor") <= price);
        possible(lotTold(lot, "end") >= day);
        possible(barsOf(lot, lotTold(lot, "parts"), buyer, price, dealer).isEmpty());
        int made = sold(lot, lotTold(lot, "parts"), buyer, price, dealer, lotTold(lot, "percent"));
        lots.get(lot).put("dealer", NONE);
        return made;
    }

    public boolean tell(int lot, int who, int whom) {
        there(has(lots, lot));
        there(has(parties, who));
        there(has(parties, whom));
        int sale = lotTold(lot, "sale");
        possible(sale != NONE);
        possible(knows.contains(sale + ":" + who));
        return !knows.add(sale + ":" + whom);
    }

    public int restore(int lot, int heir) {
        there(has(lots, lot));
        there(has(parties, heir));
        int listed = workTold(lotTold(lot, "work"), "listed");
        int sale = lotTold(lot, "sale");
        possible(lotTold(lot, "parts") != 0);
        possible(listed != NONE);
        possible(sale != NONE);
        possible(sales.get(sale).get("day") >= listed);
        possible(!hasFailed(heir));
        int before = lotTold(lot, "holder");
        lots.get(lot).putAll(row("holder", heir, "dealer", NONE, "sale", NONE));
        return before;
    }

    // ---- loans

    public int lend(int lot, int lender, int amount, int percent, int days) {
        there(has(lots, lot));
        there(has(parties, lender));
        ranged(in(amount, 1, 1000000));
        ranged(in(percent, 0, 100));
        ranged(in(days, 1, 1000));
        int borrower = lotTold(lot, "holder");
        ranged(borrower != lender);
        possible(lotTold(lot, "loan") == NONE);
        possible(lotTold(lot, "dealer") == NONE);
        possible(!hasFailed(borrower));
        possible(!hasFailed(lender));
        possible(partyTold(lender, "money") >= amount);
        possible(amount + amount <= worth(lot));
        possible(loans.size() != 20);
        loans.add(row("borrower", borrower, "lender", lender, "amount", amount, "percent", percent, "day", day,
            "due", day + days));
        lots.get(lot).put("loan", loans.size() - 1);
        gain(lender, -amount);
        gain(borrower, amount);
        return loans.size() - 1;
    }

    private int owed(int loan) {
        if (gone.contains("" + loan)) {
            return 0;
        }
        BigInteger amount = BigInteger.valueOf(loanTold(loan, "amount"));
        BigInteger times = amount.multiply(BigInteger.valueOf(loanTold(loan, "percent")))
            .multiply(BigInteger.valueOf(day - loanTold(loan, "day")));
        return amount.add(times.divide(BigInteger.valueOf(10000))).intValueExact();
    }

    private boolean seizable(int loan) {
        if (gone.contains("" + loan)) {
            return false;
        }
        long worth = 0;
        for (int lot = 0; lot < lots.size(); lot++) {
            worth += lotTold(lot, "loan") == loan ? worth(lot) : 0;
        }
        return loanTold(loan, "due") < day || owed(loan) * 10L > worth * 7L;
    }

    public int repay(int loan) {
        there(has(loans, loan));
        int borrower = loanTold(loan, "borrower");
        possible(!gone.contains("" + loan));
        possible(!hasFailed(borrower));
        possible(partyTold(borrower, "money") >= owed(loan));
        int owed = owed(loan);
        gain(borrower, -owed);
        gain(loanTold(loan, "lender"), owed);
        gone.add("" + loan);
        for (Map<String, Integer> lot : lots) {
            lot.replace("loan", loan, NONE);
        }
        return owed;
    }

    public int seize(int loan) {
        there(has(loans, loan));
        possible(!gone.contains("" + loan));
        possible(!hasFailed(loanTold(loan, "lender")));
        possible(seizable(loan));
        int count = 0;
        for (Map<String, Integer> lot : lots) {
            if (lot.get("loan") == loan) {
                lot.putAll(row("loan", NONE, "holder", loanTold(loan, "lender"), "dealer", NONE, "sale", NONE));
                count++;
            }
        }
        gone.add("" + loan);
        return count;
    }

    public int assign(int loan, int party, int price) {
        there(has(loans, loan));
        there(has(parties, party));
        int lender = loanTold(loan, "lender");
        ranged(in(price, 0, 1000000));
        ranged(party != lender);
        ranged(party != loanTold(loan, "borrower"));
        possible(!gone.contains("" + loan));
        possible(!hasFailed(lender));
        possible(!hasFailed(party));
        possible(price <= partyTold(party, "money"));
        gain(party, -price);
        gain(lender, price);
        loans.get(loan).put("lender", party);
        return lender;
    }

    // ---- what is asked

    public int bars(int lot, int parts, int buyer, int price) {
        offered(lot, parts, buyer, price);
        List<int[]> all = barsOf(lot, parts, buyer, price, NONE);
        return all.isEmpty() ? 0 : all.get(0)[0];
    }

    public int barredBy(int lot, int parts, int buyer, int price) {
        offered(lot, parts, buyer, price);
        List<int[]> all = barsOf(lot, parts, buyer, price, NONE);
        return all.isEmpty() ? NONE : all.get(0)[1];
    }

    public int price(int lot, int party) {
        there(has(lots, lot));
        there(has(parties, party));
        int sale = lotTold(lot, "sale");
        return sale != NONE && knows.contains(sale + ":" + party) ? sales.get(sale).get("price") : NONE;
    }

    public int ofParty(int party, int what) {
        there(has(parties, party));
        ranged(in(what, 0, 6));
        long sum = 0;
        for (int lot = 0; lot < lots.size(); lot++) {
            if (lotTold(lot, "holder") == party) {
                sum += what == 1 ? lotTold(lot, "parts") : what == 4 ? worth(lot) : 0;
            }
        }
        for (int loan = 0; loan < loans.size(); loan++) {
            sum += what == 2 && loanTold(loan, "borrower") == party ? owed(loan) : 0;
            sum += what == 3 && loanTold(loan, "lender") == party ? owed(loan) : 0;
        }
        for (int artist = 0; artist < 10; artist++) {
            sum += what == 6 && punishes.contains(artist + ">" + party) ? 1 : 0;
        }
        if (what == 0) {
            return partyTold(party, "money");
        }
        return what == 5 ? (hasFailed(party) ? 1 : 0) : Math.toIntExact(sum);
    }

    private int valueNow(int work) {
        return doubt(work, day) > 0 ? workTold(work, "value") / 10 : workTold(work, "value");
    }

    private int worth(int lot) {
        return valueNow(lotTold(lot, "work")) * lotTold(lot, "parts") / 60;
    }

    public int ofWork(int work, int what) {
        there(has(works, work));
        ranged(in(what, 0, 5));
        int count = 0;
        for (Map<String, Integer> lot : lots) {
            count += lot.get("work") == work && lot.get("parts") != 0 ? 1 : 0;
        }
        int isSealed = sealed.contains("" + work) ? 1 : 0;
        int[] answers = {
            valueNow(work), workTold(work, "land"), isSealed, barLeft(work), workTold(work, "listed"), count,
        };
        return answers[what];
    }

    private int chain(int lot) {
        int sale = lotTold(lot, "sale");
        if (sale == NONE) {
            return 0;
        }
        int ahead = lotTold(lotTold(lot, "from"), "sale");
        boolean near = ahead != NONE && sales.get(ahead).get("day") + 7 >= sales.get(sale).get("day");
        return near ? 1 + chain(lotTold(lot, "from")) : 1;
    }

    public int ofLot(int lot, int what) {
        there(has(lots, lot));
        ranged(in(what, 0, 8));
        int sale = lotTold(lot, "sale");
        int[] answers = {
            lotTold(lot, "work"), lotTold(lot, "holder"), lotTold(lot, "parts"), lotTold(lot, "loan"),
            lotTold(lot, "dealer"), lotTold(lot, "from"), sale == NONE ? NONE : sales.get(sale).get("day"),
            worth(lot), chain(lot),
        };
        return answers[what];
    }

    public int ofLoan(int loan, int what) {
        there(has(loans, loan));
        ranged(in(what, 0, 5));
        int[] answers = {
            loanTold(loan, "borrower"), loanTold(loan, "lender"), owed(loan), loanTold(loan, "due"),
            seizable(loan) ? 1 : 0, gone.contains("" + loan) ? 1 : 0,
        };
        return answers[what];
    }

    public int doubt(int work, int at) {
        there(has(works, work));
        ranged(in(at, 0, day));
        int sum = 0;
        for (int expert = 0; expert < parties.size(); expert++) {
            int says = 0;
            for (int[] word : words) {
                if (word[0] == expert && word[1] == work && word[2] <= at) {
                    says = word[3];
                }
            }
            sum += says * partyTold(expert, "weight");
        }
        return sum;
    }

    public int gaps(int work, int from, int to) {
        there(has(works, work));
        ranged(in(from, 1900, 2000));
        ranged(in(to, from, 2000));
        Set<Integer> years = new HashSet<>();
        for (int year = from; year <= to; year++) {
            years.add(year);
        }
        for (int[] paper : papers) {
            int told = paper[2];
            for (int year = paper[1]; paper[0] == work && year <= told; year++) {
                years.remove(year);
            }
        }
        return years.size();
    }

    public long index() {
        BigInteger sum = BigInteger.ZERO;
        int count = 0;
        for (Map<String, Integer> lot : lots) {
            int ahead = lot.get("from") == NONE ? NONE : lotTold(lot.get("from"), "sale");
            if (lot.get("sale") == NONE || ahead == NONE) {
                continue;
            }
            Map<String, Integer> now = sales.get(lot.get("sale"));
            Map<String, Integer> then = sales.get(ahead);
            if (now.get("price") != 0 && then.get("price") != 0) {
                sum = sum.add(product(1000, now.get("price"), then.get("parts"))
                    .divide(product(1, then.get("price"), now.get("parts"))));
                count++;
            }
        }
        return count == 0 ? NONE : sum.divide(BigInteger.valueOf(count)).longValueExact();
    }

    private static BigInteger product(int one, int two, int three) {
        return BigInteger.valueOf(one).multiply(BigInteger.valueOf(two)).multiply(BigInteger.valueOf(three));
    }
}
