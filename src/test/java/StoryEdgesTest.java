/** The sentences of the terms on stories, and of promises 25 to 29, that name a boundary. */
public final class StoryEdgesTest {
    private static final Twins.Steps NEW = x -> { };
    private static final int[] FAR = {Integer.MIN_VALUE, Integer.MAX_VALUE};

    private StoryEdgesTest() {
    }

    public static void main(String[] args) {
        signWorths();
        signOfEachSize();
        signAtMost8();
        signFirstException();
        signKeepsTheDraft();
        standsRanges();
        standsInEachSize();
        standsAtTheEdges();
        standsNotRoundTheEdge();
        standsByAllCells();
        storyRanges();
        storyOfNone();
        storyOfAll();
        hearPeople();
        hearGrows();
        rankedRanges();
        rankedByWhatTheyHeard();
        rankedOfSeveral();
        askingChangesNothing();
        Check.report("StoryEdgesTest");
    }

    /** The first patterns that are told have one cell, the colour 0. */
    private static Twins.Steps told(int patterns, int signs) {
        return x -> {
            for (int pattern = 0; pattern < patterns; pattern++) {
                x.pattern(0);
            }
            for (int sign = 0; sign < signs; sign++) {
                x.sign(1 + sign);
            }
        };
    }

    private static void signWorths() {
        Twins.range("P25 worth", Twins.ARGUMENT, NEW, 1, 100, (x, number) -> x.sign(number));
        Twins.range("P25 worth", Twins.ARGUMENT, told(12, 7), 1, 100, (x, number) -> x.sign(number));
        Twins.refused("P25 worth -1", Twins.ARGUMENT, NEW, x -> x.sign(-1));
        for (int worth = 1; worth <= 100; worth++) {
            BeadParley x = new BeadParley();
            x.pattern(0);
            Check.due("P25 its number", 0, x.sign(worth));
            Check.due("P25 its worth", worth, x.story(0));
        }
    }

    private static void signOfEachSize() {
        for (int size = 0; size < 48; size++) {
            int columns = 1 + size % 8;
            int rows = 1 + size / 8;
            Twins.Steps steps = x -> {
                x.draft(columns, rows);
                x.pattern(0);
            };
            String what = "P25 " + columns + " by " + rows;
            if (columns <= 3 && rows <= 3) {
                BeadParley x = Twins.made(steps);
                Check.due(what, 0, x.sign(100));
                Check.due(what + " stands", 1, x.stands(0, 0));
            } else {
                Twins.refused(what, Twins.STATE, steps, x -> x.sign(1));
                Twins.refused(what, Twins.STATE, steps, x -> x.sign(100));
            }
        }
    }

    private static void signAtMost8() {
        for (int signs = 0; signs < 8; signs++) {
            Check.due("P25 the number of " + signs, signs, Twins.made(told(1, signs)).sign(5));
        }
        Twins.refused("P25 8 signs", Twins.STATE, told(1, 8), x -> x.sign(1));
        Twins.refused("P25 8 signs", Twins.STATE, told(12, 8), x -> x.sign(100));
        Twins.refused("P25 8 signs, all full", Twins.STATE, Make::full, x -> x.sign(1));
        Twins.refused("P25 8 signs and too large", Twins.STATE, x -> {
            Make.full(x);
            x.draft(4, 4);
        }, x -> x.sign(1));
    }

    private static void signFirstException() {
        for (int worth : new int[] {0, -1, 101, Integer.MIN_VALUE, Integer.MAX_VALUE}) {
            Twins.refused("P25 worth before columns", Twins.ARGUMENT, x -> x.draft(4, 1), x -> x.sign(worth));
            Twins.refused("P25 worth before rows", Twins.ARGUMENT, x -> x.draft(1, 4), x -> x.sign(worth));
            Twins.refused("P25 worth before 8 signs", Twins.ARGUMENT, told(1, 8), x -> x.sign(worth));
        }
    }

    private static void signKeepsTheDraft() {
        BeadParley x = new BeadParley();
        Make.sign(x, 9, "123", "456", "712");
        String colours = "123456712";
        for (int cell = 0; cell < 9; cell++) {
            Check.due("P25 the draft stays", colours.charAt(cell) - '0', x.bead(cell % 3, cell / 3, 0));
        }
        x.draft(1, 1);
        Make.pattern(x, 0, "123", "456", "712");
        Check.due("P25 the sign is as the draft was", 1, x.stands(0, 0));
    }

    private static void standsRanges() {
        for (int signs : new int[] {1, 2, 7, 8}) {
            Twins.Steps steps = told(3, signs);
            Twins.range("P26 sign", Twins.INDEX, steps, 0, signs - 1, (x, number) -> x.stands(number, 2));
        }
        for (int patterns : new int[] {1, 2, 11, 12}) {
            Twins.Steps steps = told(patterns, 3);
            Twins.range("P26 pattern", Twins.INDEX, steps, 0, patterns - 1, (x, number) -> x.stands(2, number));
        }
        for (int number : new int[] {-1, 0, 7, 8, 11, 12}) {
            Twins.refused("P26 none at all", Twins.INDEX, NEW, x -> x.stands(number, number));
            Twins.refused("P26 no sign at all", Twins.INDEX, told(12, 0), x -> x.stands(number, 0));
            Twins.refused("P26 no pattern at all", Twins.INDEX, told(0, 8), x -> x.stands(0, number));
        }
        Twins.refused("P26 both", Twins.INDEX, Make::full, x -> x.stands(8, 12));
    }

    private static void standsInEachSize() {
        for (int size = 0; size < 48; size++) {
            int columns = 1 + size % 8;
            int rows = 1 + size / 8;
            for (int small = 0; small < 9; small++) {
                int signColumns = 1 + small % 3;
                int signRows = 1 + small / 3;
                BeadParley x = new BeadParley();
                x.draft(columns, rows);
                x.pattern(0);
                x.draft(signColumns, signRows);
                x.sign(1);
                int due = Math.max(0, columns - signColumns + 1) * Math.max(0, rows - signRows + 1);
                Check.due("P26 " + signColumns + " by " + signRows + " in " + columns + " by " + rows, due, x.stands(0, 0));
                Check.due("P27 as many", due, x.story(0));
            }
        }
    }

    /** A sign that stands nowhere but in one corner. */
    private static void standsAtTheEdges() {
        for (int corner = 0; corner < 4; corner++) {
            for (int small = 0; small < 9; small++) {
                int columns = 1 + small % 3;
                int rows = 1 + small / 3;
                int left = corner % 2 == 0 ? 0 : 8 - columns;
                int top = corner / 2 == 0 ? 0 : 6 - rows;
                BeadParley x = new BeadParley();
                x.draft(8, 6);
                for (int cell = 0; cell < columns * rows; cell++) {
                    x.bead(left + cell % columns, top + cell / columns, 1 + cell % 7);
                }
                x.pattern(0);
                x.draft(columns, rows);
                for (int cell = 0; cell < columns * rows; cell++) {
                    x.bead(cell % columns, cell / columns, 1 + cell % 7);
                }
                x.sign(3);
                Check.due("P26 in the corner " + corner, 1, x.stands(0, 0));
            }
        }
    }

    /** The cells behind the last column are not the first ones of the next row, nor are those below the last row. */
    private static void standsNotRoundTheEdge() {
        standsAre(0, new String[] {"001", "100"}, "11");
        standsAre(0, new String[] {"00000001", "10000000"}, "11");
        standsAre(0, new String[] {"100", "001"}, "11");
        standsAre(0, new String[] {"100", "000", "100"}, "1", "1");
        standsAre(0, new String[] {"1001"}, "11");
        standsAre(0, new String[] {"1", "0", "1"}, "1", "1");
        standsAre(0, new String[] {"11"}, "1", "1");
        standsAre(0, new String[] {"1", "1"}, "11");
        standsAre(0, new String[] {"00"}, "000");
        standsAre(0, new String[] {"0", "0"}, "0", "0", "0");
        standsAre(0, new String[] {"0"}, "00");
        standsAre(0, new String[] {"0"}, "0", "0");
        standsAre(1, new String[] {"00"}, "00");
        standsAre(1, new String[] {"0", "0"}, "0", "0");
        standsAre(0, new String[] {"12"}, "21");
        standsAre(0, new String[] {"1", "2"}, "12");
    }

    private static void standsAre(int due, String[] pattern, String... sign) {
        BeadParley x = new BeadParley();
        Make.pattern(x, 0, pattern);
        Make.sign(x, 1, sign);
        Check.due("P26 " + String.join("/", sign) + " in " + String.join("/", pattern), due, x.stands(0, 0));
    }

    private static void standsByAllCells() {
        for (int small = 0; small < 9; small++) {
            int columns = 1 + small % 3;
            int rows = 1 + small / 3;
            for (int cell = 0; cell < columns * rows; cell++) {
                BeadParley x = new BeadParley();
                x.draft(8, 6);
                x.pattern(0);
                x.draft(columns, rows);
                x.bead(cell % columns, cell / columns, 7);
                x.sign(1);
                Check.due("P26 one other bead at " + cell, 0, x.stands(0, 0));
                x.bead(cell % columns, cell / columns, 0);
                x.sign(1);
                Check.due("P26 no other bead", (9 - columns) * (7 - rows), x.stands(1, 0));
            }
        }
    }

    private static void storyRanges() {
        for (int patterns : new int[] {1, 2, 11, 12}) {
            Twins.range("P27 pattern", Twins.INDEX, told(patterns, 3), 0, patterns - 1, (x, number) -> x.story(number));
        }
        for (int number : new int[] {-1, 0, 1, 12}) {
            Twins.refused("P27 no pattern at all", Twins.INDEX, told(0, 8), x -> x.story(number));
        }
    }

    private static void storyOfNone() {
        Check.due("P27 no signs", 0, Twins.made(told(1, 0)).story(0));
        BeadParley x = new BeadParley();
        Make.sign(x, 100, "1");
        Make.pattern(x, 0, "0");
        Check.due("P27 a sign that does not stand", 0, x.story(0));
    }

    private static void storyOfAll() {
        BeadParley x = new BeadParley();
        x.draft(8, 6);
        x.pattern(0);
        x.draft(1, 1);
        for (int signs = 1; signs <= 8; signs++) {
            x.sign(100);
            Check.due("P27 " + signs + " of the highest worth", signs * 4800, x.story(0));
        }
        Check.state("P25 8 signs", () -> x.sign(100));
        Check.due("P27 all eight", 38400, x.story(0));
        BeadParley y = new BeadParley();
        Make.pattern(y, 0, "0101", "1010");
        Make.sign(y, 1, "0");
        Make.sign(y, 10, "01");
        Make.sign(y, 100, "01", "10");
        Check.due("P27 each by its worth", 4 + 30 + 200, y.story(0));
    }

    private static void hearPeople() {
        Twins.Steps steps = x -> Make.tale(x, 800);
        Twins.range("P28 person", Twins.INDEX, steps, 0, 6, (x, number) -> x.hear(0, number));
        Twins.range("P28 person", Twins.INDEX, Make::full, 0, 6, (x, number) -> x.hear(19, number));
        Twins.refused("P28 belt and person", Twins.INDEX, Make::full, x -> x.hear(20, 7));
        for (int far : FAR) {
            Twins.refused("P28 belt and person", Twins.INDEX, Make::full, x -> x.hear(far, far));
        }
    }

    private static void hearGrows() {
        BeadParley x = new BeadParley();
        Make.tale(x, 0);
        Check.due("P28 a story of 0", 0L, x.hear(0, 3));
        x.sign(1);
        Check.due("P28 a story of 1", 1L, x.hear(0, 3));
        x.sign(100);
        Check.due("P28 a story of 101", 102L, x.hear(0, 3));
        for (int person = 0; person < 7; person++) {
            Check.due("P28 each by itself", person == 3 ? 203L : 101L, x.hear(0, person));
        }
        x.bring(0, 1, 1);
        Make.pattern(x, 0, "1");
        int other = x.weave(0, 1);
        Check.due("P28 a belt whose pattern has no sign", 203L, x.hear(other, 3));
        x.give(0, 6);
        Check.due("P28 a belt of somebody else", 304L, x.hear(0, 3));
        x.apart(0);
        Check.index("P28 a belt that is no more", () -> x.hear(0, 3));
        Check.due("P28 it stays", 304L, x.hear(other, 3));
    }

    private static void rankedRanges() {
        for (Twins.Steps steps : new Twins.Steps[] {NEW, Make::some, Make::full}) {
            Twins.range("P29 rank", Twins.INDEX, steps, 0, 6, (x, number) -> x.ranked(number));
        }
    }

    /** Each order of three, with all others behind them. */
    private static void rankedByWhatTheyHeard() {
        for (int three = 0; three < 343; three++) {
            int first = three / 49;
            int second = three / 7 % 7;
            int third = three % 7;
            if (first != second && second != third && first != third) {
                BeadParley x = new BeadParley();
                Make.tale(x, 1);
                for (int person : new int[] {third, second, first, second, first, first}) {
                    x.hear(0, person);
                }
                Check.due("P29 the most", first, x.ranked(0));
                Check.due("P29 then", second, x.ranked(1));
                Check.due("P29 then", third, x.ranked(2));
                int rank = 3;
                for (int person = 0; person < 7; person++) {
                    if (person != first && person != second && person != third) {
                        Check.due("P29 of several the lower number", person, x.ranked(rank));
                        rank++;
                    }
                }
            }
        }
    }

    /** Who heard as much stand by their numbers, in front, in the middle and at the end. */
    private static void rankedOfSeveral() {
        for (int some = 0; some < 128; some++) {
            BeadParley x = new BeadParley();
            Make.tale(x, 1);
            for (int person = 6; person >= 0; person--) {
                if ((some >> person & 1) != 0) {
                    x.hear(0, person);
                }
            }
            int rank = 0;
            for (int heard = 1; heard >= 0; heard--) {
                for (int person = 0; person < 7; person++) {
                    if ((some >> person & 1) == heard) {
                        Check.due("P29 of several the lower number", person, x.ranked(rank));
                        rank++;
                    }
                }
            }
        }
        BeadParley x = new BeadParley();
        Make.tale(x, 1);
        for (int person = 0; person < 7; person++) {
            x.hear(0, person);
        }
        for (int rank = 0; rank < 7; rank++) {
            Check.due("P29 all heard as much", rank, x.ranked(rank));
        }
        for (int person = 0; person < 7; person++) {
            for (int time = 0; time < person; time++) {
                x.hear(0, person);
            }
        }
        for (int rank = 0; rank < 7; rank++) {
            Check.due("P29 all heard other numbers", 6 - rank, x.ranked(rank));
        }
    }

    private static void askingChangesNothing() {
        for (Twins.Steps steps : new Twins.Steps[] {Make::some, Make::full}) {
            Twins.changesNothing("P26", steps, x -> x.stands(0, 1));
            Twins.changesNothing("P27", steps, x -> x.story(1));
            Twins.changesNothing("P29", steps, x -> x.ranked(3));
        }
    }
}
