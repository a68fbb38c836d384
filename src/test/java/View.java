/** Tells as one text what can be seen of a hall; the hall is used up by it. */
final class View {
    private final Morphichall hall;
    private final StringBuilder seen = new StringBuilder();

    private View(Morphichall hall) {
        this.hall = hall;
    }

    static String of(Morphichall hall) {
        View view = new View(hall);
        view.seeSequences();
        view.seeFormulas();
        view.seeTurtle();
        view.seeWord();
        view.seeMorphisms();
        view.seeSlopeRow();
        view.seeRegulars();
        return view.seen.toString();
    }

    private void see(String name, Check.Call call) {
        seen.append(name).append('=').append(Check.answer(hall, call)).append(' ');
    }

    private void seeSequences() {
        see("sequences", Morphichall::sequences);
        see("checksum", Morphichall::checksum);
        see("isSound", Morphichall::isSound);
        for (int i = 0; i < 8; i++) {
            int number = i;
            see("least", h -> h.least(number));
            see("kernel", h -> h.kernel(number, 1));
            see("pieces", h -> h.pieces(number, 5));
            see("meanLetter", h -> h.meanLetter(number, 1000));
        }
    }

    private void seeFormulas() {
        for (int i = 0; i < 6; i++) {
            see("free", Morphichall::free);
            see("states", Morphichall::states);
            see("isTrue", Morphichall::isTrue);
            see("holds", h -> h.holds(1, 2, 3, 4, 5));
            for (int x = 0; x < 5; x++) {
                int variable = x;
                see("count", h -> h.count(variable, 100));
            }
            see("drop", Morphichall::drop);
        }
    }

    private void seeTurtle() {
        see("path", h -> h.path(0, 100, 'n'));
        for (char letter = 'a'; letter <= 'd'; letter++) {
            char told = letter;
            see("command", h -> h.command(told, '-'));
        }
    }

    private void seeWord() {
        see("avoiders", h -> h.avoiders(2, 8));
        see("avoiders", h -> h.avoiders(3, 6));
        see("morphism", h -> h.morphism(4));
        see("setImage", h -> h.setImage(5, 'a'));
        see("wipe", Morphichall::wipe);
    }

    private void seeMorphisms() {
        for (int i = 0; i < 6; i++) {
            int number = i;
            see("uniform", h -> h.uniform(number));
            see("isPrimitive", h -> h.isPrimitive(number));
            see("fixed", h -> h.fixed(number));
            for (char letter = 'a'; letter <= 'd'; letter++) {
                char grown = letter;
                see("grown", h -> h.grown(number, grown, 1));
                see("grown", h -> h.grown(number, grown, 7));
            }
        }
        see("checksum", Morphichall::checksum);
    }

    private void seeSlopeRow() {
        see("slopeNumber", h -> h.slopeNumber(9));
        see("slope", Morphichall::slope);
        see("checksum", Morphichall::checksum);
    }

    private void seeRegulars() {
        for (int i = 0; i < 4; i++) {
            int number = i;
            for (int row = 0; row < 3; row++) {
                int at = row;
                see("entry", h -> h.entry(number, 'l', 0, at, 1));
                see("entry", h -> h.entry(number, 'r', at, 0, 1));
                for (int column = 0; column < 3; column++) {
                    int across = column;
                    see("entry", h -> h.entry(number, '0', at, across, 1));
                    see("entry", h -> h.entry(number, '1', at, across, 1));
                }
            }
            see("term", h -> h.term(number, 5));
        }
        see("regular", h -> h.regular(1));
    }
}
