import java.util.function.IntSupplier;

/** Writes down all that a FreePort tells, for comparing two of them; the port is spent then. */
final class Look {
    private static final int NO_SUCH = Integer.MIN_VALUE;

    private final FreePort port;
    private final StringBuilder seen = new StringBuilder();

    private Look(FreePort port) {
        this.port = port;
    }

    static String at(FreePort port) {
        Look look = new Look(port);
        int parties = look.rows("party", 7, port::ofParty);
        int works = look.rows("work", 6, port::ofWork);
        int lots = look.rows("lot", 9, port::ofLot);
        look.rows("loan", 6, port::ofLoan);
        look.prices(lots, parties);
        look.wordsAndPapers(works);
        look.seen.append(" index ").append(port.index());
        look.whatChangesTell(parties, works, lots);
        return look.seen.toString();
    }

    private interface Question {
        int ask(int number, int what);
    }

    private int rows(String name, int whats, Question question) {
        int number = 0;
        while (isThere(question, number)) {
            seen.append(' ').append(name).append(number);
            for (int what = 0; what < whats; what++) {
                seen.append(what == 0 ? ':' : ',').append(question.ask(number, what));
            }
            number++;
        }
        return number;
    }

    private static boolean isThere(Question question, int number) {
        return answer(() -> question.ask(number, 0)) != NO_SUCH;
    }

    private void prices(int lots, int parties) {
        for (int lot = 0; lot < lots; lot++) {
            seen.append(" prices").append(lot);
            for (int party = 0; party < parties; party++) {
                seen.append(party == 0 ? ':' : ',').append(port.price(lot, party));
            }
        }
    }

    private void wordsAndPapers(int works) {
        for (int work = 0; work < works; work++) {
            seen.append(" doubt").append(work).append(':').append(port.doubt(work, 0));
            seen.append(" gaps").append(work).append(':').append(port.gaps(work, 1900, 2000));
            seen.append(',').append(port.gaps(work, 1900, 1950)).append(',').append(port.gaps(work, 1930, 1970));
        }
    }

    /** What no question tells comes out as the answer of a change. */
    private void whatChangesTell(int parties, int works, int lots) {
        for (int lot = 0; lot < lots; lot++) {
            int at = lot;
            if (port.ofLot(lot, 4) != FreePort.NONE) {
                seen.append(" dealt").append(lot).append(':').append(answer(() -> port.deal(at, port.ofLot(at, 4), 0)));
            }
        }
        for (int land = 0; land < 4; land++) {
            seen.append(" right:").append(port.right(land, 0));
        }
        for (int party = 0; party < parties; party++) {
            seen.append(" weight:").append(port.weight(party, 0));
        }
        for (int work = 0; work < works; work++) {
            int at = work;
            seen.append(" told:").append(port.value(work, 0));
            seen.append(" words:").append(answer(() -> port.word(0, at, true)));
        }
        seen.append(" day:").append(answer(() -> port.pass(1)));
        seen.append(" works:").append(answer(() -> port.work(0, 0)));
        seen.append(" parties:").append(answer(() -> port.party(0, 0)));
    }

    private static int answer(IntSupplier call) {
        try {
            return call.getAsInt();
        } catch (IndexOutOfBoundsException e) {
            return NO_SUCH;
        } catch (IllegalArgumentException | IllegalStateException e) {
            return NO_SUCH + 1;
        }
    }
}
