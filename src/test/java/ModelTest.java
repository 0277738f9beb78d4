import java.lang.reflect.InvocationTargetException;
import java.lang.reflect.Method;
import java.util.ArrayList;
import java.util.Arrays;
import java.util.HashMap;
import java.util.List;
import java.util.Map;
import java.util.Set;

/** Lets FreePort and Model answer the same long runs of calls; each run is the same every time. */
final class ModelTest {
    private static final int RUNS = 2400;
    private static final int CALLS = 512;
    /** Of so many runs one is looked at inside too, as that takes long. */
    private static final int LOOKED_AT = 8;
    private static final Set<String> QUESTIONS = Set.of(
        "bars", "barredBy", "price", "ofParty", "ofWork", "ofLot", "ofLoan", "doubt", "gaps", "index");
    private static final int[] FAR = {-1, Integer.MIN_VALUE, Integer.MAX_VALUE, 1000001, 62, 1 << 16};

    /** How often each call stands in a run, by the kind of the run; a call that is not named stands once. */
    private static final String[] KINDS = {
        "sell 14 tell 4 price 4 bars 6 barredBy 6 ofLot 8 index 4 pass 6 work 2 right 2",
        "sell 9 consign 12 deal 14 back 4 pass 6 ofParty 6 price 4 ofLot 5",
        "sell 5 lend 16 repay 6 seize 8 assign 6 ofLoan 8 ofParty 6 value 6 pass 6 ofLot 4 work 3",
        "word 14 weight 8 doubt 8 ofWork 6 ofLot 4 pass 3 paper 3 gaps 4 work 3 party 3",
        "list 3 restore 10 sell 14 seize 4 lend 5 ofLot 8 index 6 pass 4 deal 4 consign 4",
        "bar 6 seal 5 bring 6 bars 8 barredBy 8 sell 8 ofWork 5 pass 3 deal 6 consign 5",
        "sell 40 work 2 bars 4 barredBy 4 party 2 deal 8 consign 6 index 4",
        "pass 30 sell 4 bar 4 ofLoan 4 lend 4 ofWork 4 doubt 3",
        "fail 2 sell 8 consign 6 deal 6 lend 6 repay 4 seize 4 assign 6 restore 4 list 2 barredBy 6 back 3 ofParty 5",
        "word 60 doubt 6 weight 5 ofWork 4 pass 2",
        "sell 20 ofLot 20 pass 1 index 3 tell 3 ofWork 2 ofParty 3",
        "",
    };

    private static final Map<String, Method> OF_MODEL = new HashMap<>();
    private static final Map<String, Method> OF_PORT = new HashMap<>();
    private static final List<String> NAMES = new ArrayList<>();

    private final Dice dice;
    private final Model model = new Model();
    private final FreePort port = new FreePort();
    private final List<String> deck = new ArrayList<>();
    private final StringBuilder told = new StringBuilder();
    private final int wildness;
    private String inside = Inside.of(port);

    private ModelTest(int run) {
        dice = new Dice(run);
        wildness = run % 7 == 0 ? 25 : 3;
        String[] kind = KINDS[run % KINDS.length].split(" ");
        Map<String, Integer> counts = new HashMap<>();
        for (int i = 0; i + 1 < kind.length; i += 2) {
            counts.put(kind[i], Integer.valueOf(kind[i + 1]));
        }
        for (String name : NAMES) {
            boolean rare = name.equals("fail") && run % 3 != 0;
            for (int i = 0; i < counts.getOrDefault(name, rare ? 0 : 1); i++) {
                deck.add(name);
            }
        }
    }

    public static void main(String[] args) {
        for (Method method : Model.class.getDeclaredMethods()) {
            if (java.lang.reflect.Modifier.isPublic(method.getModifiers())) {
                OF_MODEL.put(method.getName(), method);
                NAMES.add(method.getName());
            }
        }
        NAMES.sort(null);
        for (Method method : FreePort.class.getDeclaredMethods()) {
            if (java.lang.reflect.Modifier.isPublic(method.getModifiers())) {
                OF_PORT.put(method.getName(), method);
            }
        }
        Due.is("methods", OF_PORT.size(), OF_MODEL.size());
        for (int run = 0; run < RUNS; run++) {
            new ModelTest(run).play(run);
        }
        Due.end("ModelTest");
    }

    private void play(int run) {
        int calls = 0;
        int parties = 2 + dice.below(run % 5 == 0 ? 9 : 5);
        for (int i = 0; i < parties && calls < CALLS; i++) {
            compare(run, "party", dice.below(3) == 0 ? dice.below(2000) : 200000 + dice.below(800001), dice.below(4));
            calls++;
        }
        for (int i = 0; i < 1 + run % 3; i++) {
            compare(run, "work", dice.below(parties), dice.below(3) == 0 ? dice.below(900) : dice.below(1000001));
            calls++;
        }
        while (calls < CALLS) {
            String name = deck.get(dice.below(deck.size()));
            if (!compare(run, name, arguments(name))) {
                return;
            }
            calls++;
        }
    }

    /** Both answer the call; answers whether they agree. */
    private boolean compare(int run, String name, Object... arguments) {
        String due = answer(OF_MODEL.get(name), model, arguments);
        String got = answer(OF_PORT.get(name), port, arguments);
        String call = name + Arrays.toString(arguments);
        told.append(call).append(" -> ").append(due).append('\n');
        if (run % LOOKED_AT == 0) {
            lookInside("run " + run + ": " + call, QUESTIONS.contains(name) || got.endsWith("Exception"));
        }
        if (due.equals(got)) {
            Due.is(call, true, true);
            return true;
        }
        Due.same("run " + run + ", after\n" + told + call, due, got);
        return false;
    }

    private void lookInside(String call, boolean isTheSame) {
        String before = inside;
        inside = Inside.of(port);
        if (isTheSame) {
            Due.is(call + " changes nothing", true, before.equals(inside));
        }
    }

    private static String answer(Method method, Object on, Object[] arguments) {
        try {
            return String.valueOf(method.invoke(on, arguments));
        } catch (InvocationTargetException e) {
            return e.getCause().getClass().getName();
        } catch (IllegalAccessException e) {
            throw new IllegalStateException(e);
        }
    }

    private Object[] arguments(String name) {
        int lot = dice.below(4) == 0 ? wild(Math.max(0, model.count("ofLot") - 1), 60) : number("ofLot");
        int loan = number("ofLoan");
        int party = number("ofParty");
        int other = number("ofParty");
        int work = number("ofWork");
        boolean is = dice.below(2) == 0;
        switch (name) {
            case "party": return all(sum(), land());
            case "work": return all(party, sum());
            case "value": return all(work, toldValue(work));
            case "pass": return all(days());
            case "weight": return all(party, wild(dice.below(10), 10));
            case "word": return all(party, work, is);
            case "paper":
            case "gaps": return years(work);
            case "right": return all(land(), wild(dice.below(21), 21));
            case "bar": return all(work, dice.below(3) == 0 ? 0 : days());
            case "seal": return all(work, is);
            case "bring": return all(work, land());
            case "list": return all(work);
            case "fail": return all(party);
            case "sell":
            case "bars":
            case "barredBy": return all(lot, parts(lot), party, price(party));
            case "consign":
                return all(lot, party, dice.below(2) == 0 ? 0 : price(other), wild(dice.below(51), 51), days());
            case "back": return all(consigned(lot));
            case "deal": return deal(consigned(lot), party);
            case "tell": return tell(lot, party, other);
            case "price": return all(lot, party);
            case "restore": return all(lot, party);
            case "lend":
                return all(lot, party, amount(lot), wild(dice.below(101), 101), wild(1 + dice.below(40), 1001));
            case "repay":
            case "seize": return all(loan);
            case "assign": return all(loan, party, price(party));
            case "ofParty": return all(party, wild(dice.below(7), 7));
            case "ofWork": return all(work, wild(dice.below(6), 6));
            case "ofLot": return all(lot, wild(dice.below(9), 9));
            case "ofLoan": return all(loan, wild(dice.below(6), 6));
            case "doubt": return all(work, wild(dice.below(model.today() + 1), model.today() + 1));
            default: return all();
        }
    }

    private static Object[] all(Object... arguments) {
        return arguments;
    }

    /** Mostly the number itself, at times one just behind its range or far out. */
    private int wild(int number, int behind) {
        if (dice.below(100) >= wildness) {
            return number;
        }
        int pick = dice.below(FAR.length + 3);
        return pick < FAR.length ? FAR[pick] : pick == FAR.length ? behind : pick == FAR.length + 1 ? behind - 1 : 0;
    }

    private int number(String of) {
        int count = model.count(of);
        return wild(dice.below(Math.max(1, count)), count);
    }

    private int land() {
        return wild(dice.below(4), 4);
    }

    private int sum() {
        return wild(dice.below(3) == 0 ? dice.below(2000) : dice.below(1000001), 1000001);
    }

    private int days() {
        int[] edges = {1, 1, 2, 3, 5, 6, 7, 8, 99, 100, 101, 1000, 93, 1000};
        return wild(dice.below(2) == 0 ? 1 + dice.below(4) : edges[dice.below(edges.length)], 1001);
    }

    private int price(int party) {
        int money = Math.max(0, ask("ofParty", party, 0));
        switch (dice.below(10)) {
            case 0: return wild(money, 1000001);
            case 1: return wild(money + 1, 1000001);
            case 2: return 0;
            case 3: return wild(dice.below(money + 1), 1000001);
            default: return wild(dice.below(money / 16 + 3), 1000001);
        }
    }

    private int parts(int lot) {
        int has = Math.max(0, ask("ofLot", lot, 2));
        switch (dice.below(8)) {
            case 0: return wild(has, 61);
            case 1: return wild(has + 1, 61);
            case 2: return wild(1 + dice.below(60), 61);
            default: return wild(1 + dice.below(Math.max(1, Math.min(has, 12))), 61);
        }
    }

    /** Half of its worth, so that the pledge just suffices, or one more, or less. */
    private int amount(int lot) {
        int worth = Math.max(0, ask("ofLot", lot, 7));
        switch (dice.below(5)) {
            case 0: return wild(worth / 2, 1000001);
            case 1: return wild(worth / 2 + 1, 1000001);
            default: return wild(1 + dice.below(worth / 2 + 1), 1000001);
        }
    }

    /** At times a value for which a loan on the work just can be seized, or just not. */
    private int toldValue(int work) {
        int loan = dice.below(Math.max(1, model.count("ofLoan")));
        int owed = ask("ofLoan", loan, 2);
        if (dice.below(3) == 0 || owed <= 0) {
            return sum();
        }
        int pledged = Math.max(1, model.partsUnder(loan));
        long edge = owed * 600L / (7L * pledged) + dice.below(5) - 2;
        return (int) Math.max(0, Math.min(1000000, edge));
    }

    private Object[] years(int work) {
        int from = 1900 + dice.below(101);
        int to = from + dice.below(Math.min(20, 2001 - from));
        int wildFrom = dice.below(10) == 0 ? 1899 + dice.below(3) : wild(from, 2001);
        int wildTo = dice.below(10) == 0 ? wildFrom - 1 + dice.below(2) : wild(to, 2001);
        return all(work, wildFrom, wildTo);
    }

    private int consigned(int lot) {
        int found = lot;
        for (int i = 0; i < 10 && ask("ofLot", found, 4) < 0; i++) {
            found = number("ofLot");
        }
        return found;
    }

    /** At times for the floor, or one below it. */
    private Object[] deal(int lot, int buyer) {
        int floor = model.floor(lot);
        switch (dice.below(4)) {
            case 0: return all(lot, buyer, floor);
            case 1: return all(lot, buyer, floor - 1);
            default: return all(lot, buyer, price(buyer));
        }
    }

    /** Mostly told by one who knows the price. */
    private Object[] tell(int lot, int who, int whom) {
        int teller = who;
        for (int i = 0; i < 6 && ask("price", lot, teller) < 0; i++) {
            teller = number("ofParty");
        }
        return all(lot, teller, whom);
    }

    private int ask(String question, int number, int what) {
        try {
            return (int) (Integer) OF_MODEL.get(question).invoke(model, number, what);
        } catch (InvocationTargetException e) {
            return -1;
        } catch (IllegalAccessException e) {
            throw new IllegalStateException(e);
        }
    }

    /** Numbers that look thrown, but are the same every time. */
    private static final class Dice {
        private long state;

        private Dice(int seed) {
            state = seed * 2862933555777941757L + 3037000493L;
        }

        private int below(int bound) {
            state = state * 6364136223846793005L + 1442695040888963407L;
            return (int) ((state >>> 33) % bound);
        }
    }
}
