import java.util.ArrayList;
import java.util.List;

/**
 * Calls that must throw, or that only ask: two objects take the same steps, one of them the call besides, and are
 * asked for all that they know, by calls that change them too. No object gets more than 512 calls.
 */
final class Twins {
    static final String INDEX = "throws.IndexOutOfBoundsException";
    static final String ARGUMENT = "throws.IllegalArgumentException";
    static final String STATE = "throws.IllegalStateException";

    interface Steps {
        void on(BeadParley x);
    }

    interface Asked {
        Object of(BeadParley x);
    }

    interface AskedWith {
        Object of(BeadParley x, int number);
    }

    private static final List<Asked> PROBES = probes();

    private Twins() {
    }

    static BeadParley made(Steps steps) {
        BeadParley x = new BeadParley();
        steps.on(x);
        return x;
    }

    /** Whether the call throws as due, and changes nothing. */
    static void refused(String what, String due, Steps steps, Asked call) {
        BeadParley x = made(steps);
        Check.due(what, due, Check.answerOf(() -> call.of(x)));
        changesNothing(what, steps, call);
    }

    static void changesNothing(String what, Steps steps, Asked call) {
        for (Asked probe : PROBES) {
            BeadParley called = made(steps);
            Check.answerOf(() -> call.of(called));
            Check.due(what + " changes nothing", probe.of(made(steps)), probe.of(called));
        }
    }

    /** Whether the least and the greatest number are taken, and those beyond are refused and change nothing. */
    static void range(String what, String due, Steps steps, int least, int most, AskedWith call) {
        for (int number : new int[] {least, most}) {
            BeadParley x = made(steps);
            String answer = Check.answerOf(() -> call.of(x, number));
            Check.due(what + " " + number + ": " + answer, false, answer.startsWith("throws."));
        }
        for (int number : new int[] {least - 1, most + 1, Integer.MIN_VALUE, Integer.MAX_VALUE}) {
            refused(what + " " + number, due, steps, x -> call.of(x, number));
        }
    }

    private static List<Asked> probes() {
        List<Asked> probes = new ArrayList<>();
        probes.add(Twins::beads);
        probes.add(Twins::draft);
        probes.add(Twins::draftAsPattern);
        probes.add(Twins::patterns);
        probes.add(Twins::belts);
        probes.add(Twins::beltsApart);
        probes.add(Twins::authors);
        probes.add(Twins::barter);
        probes.add(Twins::stories);
        probes.add(Twins::heard);
        for (int person = 0; person < 7; person++) {
            int number = person;
            probes.add(x -> wishOf(x, number));
        }
        return probes;
    }

    private static void tell(StringBuilder text, Check.Call call) {
        text.append(Check.answerOf(call)).append(' ');
    }

    private static void hands(StringBuilder text, BeadParley x) {
        for (int cell = 0; cell < 56; cell++) {
            text.append(x.hand(cell / 8, cell % 8)).append(' ');
        }
    }

    private static String beads(BeadParley x) {
        StringBuilder text = new StringBuilder("beads ");
        hands(text, x);
        for (int colour = 0; colour < 8; colour++) {
            int number = colour;
            tell(text, () -> x.lay(1, number, 0));
            text.append(x.beads(colour)).append(' ').append(x.brought(colour)).append(' ');
        }
        return text.toString();
    }

    /** The size shows in the cells that are not there. */
    private static String draft(BeadParley x) {
        StringBuilder text = new StringBuilder("draft ");
        for (int cell = 0; cell < 48; cell++) {
            int number = cell;
            tell(text, () -> x.bead(number % 8, number / 8, 0));
        }
        tell(text, () -> x.sign(1));
        return text.toString();
    }

    private static String draftAsPattern(BeadParley x) {
        StringBuilder text = new StringBuilder("draft as a pattern ");
        tell(text, () -> x.pattern(0));
        for (int colour = 0; colour < 8; colour++) {
            int number = colour;
            tell(text, () -> x.needs(x.patterns() - 1, number));
        }
        return text.toString();
    }

    private static String patterns(BeadParley x) {
        StringBuilder text = new StringBuilder("patterns " + x.patterns() + " ");
        for (int pattern = 0; pattern < 12; pattern++) {
            int number = pattern;
            tell(text, () -> x.symmetries(number));
            tell(text, () -> x.origin(number));
            for (int colour = 0; colour < 8; colour++) {
                int sought = colour;
                tell(text, () -> x.needs(number, sought));
            }
        }
        return text.toString();
    }

    private static String belts(BeadParley x) {
        StringBuilder text = new StringBuilder("belts ");
        for (int belt = 0; belt < 20; belt++) {
            int number = belt;
            tell(text, () -> x.owner(number));
            tell(text, () -> x.give(number, 6));
        }
        tell(text, () -> x.weave(0, 0));
        return text.toString();
    }

    private static String beltsApart(BeadParley x) {
        StringBuilder text = new StringBuilder("belts apart ");
        for (int belt = 0; belt < 20; belt++) {
            int number = belt;
            tell(text, () -> x.apart(number));
        }
        hands(text, x);
        return text.toString();
    }

    /** Who gets the credit for each pattern. */
    private static String authors(BeadParley x) {
        StringBuilder text = new StringBuilder("authors ");
        tell(text, () -> x.apart(0));
        for (int colour = 0; colour < 8; colour++) {
            int number = colour;
            tell(text, () -> x.bring(0, number, 48));
        }
        for (int pattern = 0; pattern < 12; pattern++) {
            int number = pattern;
            tell(text, () -> x.weave(0, number));
            for (int person = 0; person < 7; person++) {
                text.append(x.credits(person)).append(' ');
            }
            tell(text, () -> x.apart(0));
        }
        return text.toString();
    }

    private static String barter(BeadParley x) {
        StringBuilder text = new StringBuilder("barter " + x.chain() + " " + x.chainByOrders() + " ");
        for (int place = 0; place < 7; place++) {
            int number = place;
            tell(text, () -> x.chainAt(number));
        }
        for (int day = 0; day < 2; day++) {
            text.append(x.fair()).append(' ');
            hands(text, x);
        }
        for (int person = 0; person < 7; person++) {
            text.append(x.unwish(person)).append(' ');
        }
        return text.toString();
    }

    /** With each wish that somebody else may have there is a chain or none. */
    private static String wishOf(BeadParley x, int person) {
        StringBuilder text = new StringBuilder("wish of " + person + " ");
        int other = (person + 1) % 7;
        for (int colour = 0; colour < 8; colour++) {
            int number = colour;
            Check.answerOf(() -> x.bring(person, number, 1));
            Check.answerOf(() -> x.bring(other, number, 1));
        }
        for (int someone = 0; someone < 7; someone++) {
            if (someone != person) {
                x.unwish(someone);
            }
        }
        for (int pair = 0; pair < 64; pair++) {
            if (pair / 8 != pair % 8) {
                x.wish(other, pair / 8, pair % 8);
                text.append(x.chain());
            }
        }
        return text.toString();
    }

    private static String stories(BeadParley x) {
        StringBuilder text = new StringBuilder("stories ");
        for (int pattern = 0; pattern < 12; pattern++) {
            int number = pattern;
            tell(text, () -> x.story(number));
            for (int sign = 0; sign < 8; sign++) {
                int sought = sign;
                tell(text, () -> x.stands(sought, number));
            }
        }
        return text.toString();
    }

    private static String heard(BeadParley x) {
        StringBuilder text = new StringBuilder("heard ");
        for (int rank = 0; rank < 7; rank++) {
            text.append(x.ranked(rank)).append(' ');
        }
        for (int person = 0; person < 7; person++) {
            int number = person;
            tell(text, () -> x.hear(0, number));
        }
        for (int belt = 0; belt < 20; belt++) {
            int number = belt;
            tell(text, () -> x.hear(number, 0));
        }
        for (int rank = 0; rank < 7; rank++) {
            text.append(x.ranked(rank)).append(' ');
        }
        return text.toString();
    }
}
