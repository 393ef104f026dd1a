/** Long runs of calls, the same ones each time, each answer beside the model's. */
public final class RunsTest {
    private static final int RUNS = 280;
    private static final int CALLS = 490;
    private static final String[] NAMES = {
        "bring", "lay", "hand", "beads", "brought", "draft", "bead", "pattern", "patterns", "symmetries", "origin",
        "needs", "weave", "apart", "give", "owner", "credits", "wish", "unwish", "chain", "chainByOrders", "chainAt",
        "fair", "sign", "stands", "story", "hear", "ranked"};

    /** What most calls of a run are: nothing but a full mix, barter, belts, or drafts and signs. */
    private static final String[][] MOSTLY = {
        NAMES,
        {"bring", "bring", "wish", "wish", "wish", "chain", "chainByOrders", "chainAt", "chainAt", "fair", "hand"},
        {"bring", "bring", "weave", "weave", "weave", "apart", "give", "owner", "hear", "ranked", "credits", "beads"},
        {"bead", "bead", "bead", "bead", "pattern", "sign", "symmetries", "origin", "stands", "story", "draft"}};

    private static long seed;

    private RunsTest() {
    }

    /** From 0 up to below bound. */
    private static int below(int bound) {
        seed = seed * 6364136223846793005L + 1442695040888963407L;
        return (int) ((seed >>> 33) % bound);
    }

    /** Mostly a number in the range, now and then one beside it or far away. */
    private static int number(int least, int most) {
        int way = below(60);
        if (way == 0) {
            return least - 1;
        }
        if (way == 1) {
            return most + 1;
        }
        if (way == 2) {
            return below(2) == 0 ? Integer.MIN_VALUE : Integer.MAX_VALUE;
        }
        return least + below(most - least + 1);
    }

    public static void main(String[] args) {
        for (int run = 0; run < RUNS; run++) {
            seed = run;
            if (!goesAsTheModel(run)) {
                break;
            }
        }
        Check.report("RunsTest");
    }

    /** Ends at the first wrong answer: those behind it would only follow from it. */
    private static boolean goesAsTheModel(int run) {
        BeadParley x = new BeadParley();
        Model model = new Model();
        String[] mostly = MOSTLY[run % 4];
        int colours = 2 + run / 4 % 7;
        setUp(x, model, run);
        for (int call = 0; call < CALLS; call++) {
            String name = below(8) == 0 ? NAMES[below(NAMES.length)] : mostly[below(mostly.length)];
            int[] arguments = argumentsOf(name, colours, run);
            int a = arguments[0];
            int b = arguments[1];
            int c = arguments[2];
            if (!isAlike(x, model, "run " + run + " call " + call + " ", name, a, b, c)) {
                return false;
            }
        }
        return true;
    }

    private static boolean isAlike(BeadParley x, Model model, String place, String name, int a, int b, int c) {
        String want = model.answer(name, a, b, c);
        String got = Check.answerOf(() -> answer(x, name, a, b, c));
        Check.due(place + name + "(" + a + ", " + b + ", " + c + ")", want, got);
        return want.equals(got);
    }

    /** Where belts are the matter, a pattern, a sign and beads stand from the start. */
    private static void setUp(BeadParley x, Model model, int run) {
        if (run % 4 != 2) {
            return;
        }
        String place = "run " + run + " set up ";
        isAlike(x, model, place, "draft", 2, 1 + run % 3, 0);
        isAlike(x, model, place, "bead", 1, 0, 1);
        isAlike(x, model, place, "pattern", run % 7, 0, 0);
        isAlike(x, model, place, "pattern", 3, 0, 0);
        isAlike(x, model, place, "sign", 9, 0, 0);
        for (int person = 0; person < 7; person++) {
            isAlike(x, model, place, "bring", person, 0, 20);
            isAlike(x, model, place, "bring", person, 1, 5);
        }
    }

    private static int[] argumentsOf(String name, int colours, int run) {
        int person = number(0, 6);
        int colour = number(0, colours - 1);
        int pattern = number(0, run % 4 == 2 ? 1 : 3);
        int belt = number(0, run % 2 == 0 ? 4 : 19);
        switch (name) {
            case "bring":
                return new int[] {person, colour, run % 5 == 0 ? number(1, 30) : number(1, 1000)};
            case "lay":
                return new int[] {person, colour, run % 5 == 0 ? number(-9, 9) : number(-1000, 1000)};
            case "hand":
                return new int[] {person, colour, 0};
            case "beads": case "brought":
                return new int[] {colour, 0, 0};
            case "draft":
                return run % 8 == 0 ? new int[] {number(1, 8), number(1, 6), 0} : new int[] {number(1, 3), number(1, 3), 0};
            case "bead":
                return new int[] {number(0, 2), number(0, 2), colour};
            case "symmetries": case "origin": case "story":
                return new int[] {number(0, run % 2 == 0 ? 3 : 11), 0, 0};
            case "needs":
                return new int[] {pattern, colour, 0};
            case "weave":
                return new int[] {person, pattern, 0};
            case "apart": case "owner":
                return new int[] {belt, 0, 0};
            case "give": case "hear":
                return new int[] {belt, person, 0};
            case "wish":
                return new int[] {person, colour, number(0, colours - 1)};
            case "chainAt":
                return new int[] {number(0, 4), 0, 0};
            case "sign":
                return new int[] {number(1, 100), 0, 0};
            case "stands":
                return new int[] {number(0, 7), pattern, 0};
            default:
                return new int[] {person, 0, 0};
        }
    }

    private static Object answer(BeadParley x, String name, int a, int b, int c) {
        switch (name) {
            case "bring": return x.bring(a, b, c);
            case "lay": return x.lay(a, b, c);
            case "hand": return x.hand(a, b);
            case "beads": return x.beads(a);
            case "brought": return x.brought(a);
            case "draft": return x.draft(a, b);
            case "bead": return x.bead(a, b, c);
            case "pattern": return x.pattern(a);
            case "patterns": return x.patterns();
            case "symmetries": return x.symmetries(a);
            case "origin": return x.origin(a);
            case "needs": return x.needs(a, b);
            case "weave": return x.weave(a, b);
            case "apart": return x.apart(a);
            case "give": return x.give(a, b);
            case "owner": return x.owner(a);
            case "credits": return x.credits(a);
            case "wish": return x.wish(a, b, c);
            case "unwish": return x.unwish(a);
            case "chain": return x.chain();
            case "chainByOrders": return x.chainByOrders();
            case "chainAt": return x.chainAt(a);
            case "fair": return x.fair();
            case "sign": return x.sign(a);
            case "stands": return x.stands(a, b);
            case "story": return x.story(a);
            case "hear": return x.hear(a, b);
            default: return x.ranked(a);
        }
    }
}
