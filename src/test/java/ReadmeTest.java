/** The examples of README.md answer as they say there. */
public final class ReadmeTest {
    private ReadmeTest() {
    }

    public static void main(String[] args) {
        weaveAndTell();
        barter();
        Check.report("ReadmeTest");
    }

    private static void weaveAndTell() {
        BeadParley fair = new BeadParley();
        Check.due("draft", 2, fair.draft(2, 1));
        Check.due("bead", 0, fair.bead(1, 0, 3));
        int pattern = fair.pattern(6);
        Check.due("pattern", 0, pattern);
        Check.due("bring", 5, fair.bring(0, 0, 5));
        Check.due("bring", 5, fair.bring(0, 3, 5));
        int belt = fair.weave(0, pattern);
        Check.due("weave", 0, belt);
        Check.due("one bead of the colour 0", 4, fair.hand(0, 0));
        Check.due("one bead of the colour 3", 4, fair.hand(0, 3));
        Check.due("credits", 1, fair.credits(6));
        Check.due("sign", 0, fair.sign(10));
        long heard = fair.hear(belt, 2);
        Check.due("hear", 10L, heard);
        Check.due("ranked", 2, fair.ranked(0));
        Check.due("apart", 2, fair.apart(belt));
        Check.due("back in the hand", 5, fair.hand(0, 3));
    }

    private static void barter() {
        BeadParley fair = new BeadParley();
        Check.due("bring", 1, fair.bring(1, 4, 1));
        Check.due("bring", 1, fair.bring(3, 5, 1));
        Check.due("wish", false, fair.wish(1, 4, 5));
        Check.due("wish", false, fair.wish(3, 5, 4));
        Check.due("chain", 2, fair.chain());
        Check.due("chainAt", 1, fair.chainAt(0));
        Check.due("fair", 2, fair.fair());
        Check.due("hand", 1, fair.hand(1, 5));
    }
}
