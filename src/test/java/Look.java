import java.util.function.IntSupplier;

/** Writes down what a FreePort tells, for comparing two of them; the port is spent then. */
final class Look {
    /** A port's answers behind its 512th call are free: this leaves the rest of them for making the port. */
    private static final int MOST_CALLS = 430;
    private static final int NO_SUCH = Integer.MIN_VALUE;
    private static final int REFUSED = NO_SUCH + 1;

    private final FreePort port;
    private final StringBuilder seen = new StringBuilder();
    private int calls = 0;

    private Look(FreePort port) {
        this.port = port;
    }

    static String at(FreePort port) {
        Look look = new Look(port);
        int parties = look.rows("party", 7, port::ofParty);
        int works = look.rows("work", 6, port::ofWork);
        look.rows("loan", 6, port::ofLoan);
        int lots = look.rows("lot", 9, port::ofLot);
        look.prices(lots, parties);
        look.wordsAndPapers(works);
        look.seen.append(" index ").append(port.index());
        look.whatChangesTell(parties, works, lots);
        if (look.calls > MOST_CALLS) {
            throw new AssertionError(look.calls + " calls are too many for a look");
        }
        return look.seen.toString();
    }

    private interface Question {
        int ask(int number, int what);
    }

    /** Of very many rows it looks at the first ones alone, and counts the others. */
    private int rows(String name, int whats, Question question) {
        int number = 0;
        int first = answer(() -> question.ask(0, 0));
        while (first != NO_SUCH) {
            seen.append(' ').append(name).append(number).append(':').append(first);
            int at = number;
            for (int what = 1; what < whats && number < 12; what++) {
                int asked = what;
                seen.append(',').append(answer(() -> question.ask(at, asked)));
            }
            number++;
            first = answer(() -> question.ask(at + 1, 0));
        }
        return number;
    }

    private void prices(int lots, int parties) {
        for (int lot = 0; lot < lots && lot < 12; lot++) {
            seen.append(" prices").append(lot);
            for (int party = 0; party < parties; party++) {
                int at = lot;
                int asker = party;
                seen.append(party == 0 ? ':' : ',').append(answer(() -> port.price(at, asker)));
            }
        }
    }

    private void wordsAndPapers(int works) {
        for (int work = 0; work < works; work++) {
            int at = work;
            seen.append(" doubt").append(work).append(':').append(answer(() -> port.doubt(at, 0)));
            seen.append(" gaps").append(work).append(':').append(answer(() -> port.gaps(at, 1900, 2000)));
            seen.append(',').append(answer(() -> port.gaps(at, 1900, 1950)));
            seen.append(',').append(answer(() -> port.gaps(at, 1930, 1970)));
        }
    }

    /** What no question tells comes out as the answer of a change. */
    private void whatChangesTell(int parties, int works, int lots) {
        for (int lot = 0; lot < lots && lot < 12; lot++) {
            int at = lot;
            int dealer = answer(() -> port.ofLot(at, 4));
            if (dealer != FreePort.NONE) {
                seen.append(" dealt").append(lot).append(':').append(answer(() -> port.deal(at, dealer, 0)));
            }
        }
        for (int land = 0; land < 4; land++) {
            int at = land;
            seen.append(" right:").append(answer(() -> port.right(at, 0)));
        }
        for (int party = 0; party < parties; party++) {
            int at = party;
            seen.append(" weight:").append(answer(() -> port.weight(at, 0)));
        }
        for (int work = 0; work < works; work++) {
            int at = work;
            seen.append(" told:").append(answer(() -> port.value(at, 0)));
            seen.append(" words:").append(answer(() -> port.word(0, at, true)));
        }
        seen.append(" day:").append(answer(() -> port.pass(1)));
        seen.append(" works:").append(answer(() -> port.work(0, 0)));
        seen.append(" parties:").append(answer(() -> port.party(0, 0)));
    }

    private int answer(IntSupplier call) {
        calls++;
        try {
            return call.getAsInt();
        } catch (IndexOutOfBoundsException e) {
            return NO_SUCH;
        } catch (IllegalArgumentException | IllegalStateException e) {
            return REFUSED;
        }
    }
}
