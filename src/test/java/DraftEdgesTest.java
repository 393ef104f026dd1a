/** The sentences of the terms on drafts and patterns, and of promises 7 to 13, that name a boundary. */
public final class DraftEdgesTest {
    private static final Twins.Steps NEW = x -> { };
    private static final Twins.Steps[] STATES = {NEW, Make::some, Make::full};

    private DraftEdgesTest() {
    }

    public static void main(String[] args) {
        theFirstDraft();
        draftRanges();
        draftOfEachSize();
        draftAnew();
        beadRanges();
        beadInEachCell();
        beadOfEachColour();
        patternAuthors();
        patternAtMost12();
        patternKeepsTheDraft();
        patternFirstException();
        patternsCounts();
        patternNumbers();
        symmetriesOfEachSize();
        symmetriesOfEachSet();
        symmetriesOfOneOtherBead();
        originItself();
        originIsTheLowest();
        originByEachImage();
        originOfEachSize();
        originNotOfAnotherSize();
        originNotByOneOtherBead();
        originNotByAHigherOne();
        needsColours();
        needsOfEachSize();
        askingChangesNothing();
        Check.report("DraftEdgesTest");
    }

    private static void theFirstDraft() {
        BeadParley x = new BeadParley();
        Check.due("one cell of the colour 0", 0, x.pattern(0));
        Check.due("one cell of the colour 0", 1, x.needs(0, 0));
        for (int colour = 1; colour < 8; colour++) {
            Check.due("no other colour", 0, x.needs(0, colour));
        }
        Check.due("the colour 0", 0, x.bead(0, 0, 7));
        Twins.refused("one column", Twins.INDEX, NEW, y -> y.bead(1, 0, 0));
        Twins.refused("one row", Twins.INDEX, NEW, y -> y.bead(0, 1, 0));
        Check.due("small enough for a sign", 0, x.sign(1));
    }

    private static void draftRanges() {
        for (Twins.Steps steps : STATES) {
            Twins.range("P7 columns", Twins.ARGUMENT, steps, 1, 8, (x, number) -> x.draft(number, 1));
            Twins.range("P7 columns", Twins.ARGUMENT, steps, 1, 8, (x, number) -> x.draft(number, 6));
            Twins.range("P7 rows", Twins.ARGUMENT, steps, 1, 6, (x, number) -> x.draft(1, number));
            Twins.range("P7 rows", Twins.ARGUMENT, steps, 1, 6, (x, number) -> x.draft(8, number));
        }
        Twins.refused("P7 both too few", Twins.ARGUMENT, NEW, x -> x.draft(0, 0));
        Twins.refused("P7 both too many", Twins.ARGUMENT, NEW, x -> x.draft(9, 7));
        Twins.refused("P7 rows as many as columns may be", Twins.ARGUMENT, NEW, x -> x.draft(6, 8));
        Twins.refused("P7 a product in its range", Twins.ARGUMENT, NEW, x -> x.draft(-2, -3));
        Twins.refused("P7 a product that wraps round", Twins.ARGUMENT, NEW, x -> x.draft(1 << 16, 1 << 16));
    }

    private static void draftOfEachSize() {
        for (int size = 0; size < 48; size++) {
            int columns = 1 + size % 8;
            int rows = 1 + size / 8;
            String what = "P7 " + columns + " by " + rows + ": ";
            BeadParley x = new BeadParley();
            Check.due(what + "cells", columns * rows, x.draft(columns, rows));
            for (int cell = 0; cell < columns * rows; cell++) {
                Check.due(what + "colour 0", 0, x.bead(cell % columns, cell / columns, 0));
            }
            Twins.Steps steps = y -> y.draft(columns, rows);
            Twins.refused(what + "column", Twins.INDEX, steps, y -> y.bead(columns, 0, 1));
            Twins.refused(what + "row", Twins.INDEX, steps, y -> y.bead(0, rows, 1));
            Twins.refused(what + "column and row", Twins.INDEX, steps, y -> y.bead(columns, rows, 1));
        }
    }

    /** Whatever the draft was before, a new one is all of the colour 0. */
    private static void draftAnew() {
        int[][] sizes = {{8, 6}, {1, 6}, {8, 1}, {3, 3}, {6, 6}, {8, 6}};
        for (int[] size : sizes) {
            for (int[] before : sizes) {
                BeadParley x = new BeadParley();
                paintAll(x, before[0], before[1], 5);
                x.pattern(0);
                x.draft(size[0], size[1]);
                x.pattern(0);
                Check.due("P7 all of the colour 0", size[0] * size[1], x.needs(1, 0));
                Check.due("P7 none of the one before", 0, x.needs(1, 5));
                Check.due("P7 the pattern stays", before[0] * before[1], x.needs(0, 5));
            }
        }
    }

    private static void paintAll(BeadParley x, int columns, int rows, int colour) {
        x.draft(columns, rows);
        for (int cell = 0; cell < columns * rows; cell++) {
            x.bead(cell % columns, cell / columns, colour);
        }
    }

    private static void beadRanges() {
        for (int[] size : new int[][] {{1, 1}, {8, 1}, {1, 6}, {3, 2}, {2, 3}, {8, 6}}) {
            Twins.Steps steps = x -> paintAll(x, size[0], size[1], 4);
            int column = size[0] - 1;
            int row = size[1] - 1;
            Twins.range("P8 column", Twins.INDEX, steps, 0, column, (x, number) -> x.bead(number, row, 7));
            Twins.range("P8 row", Twins.INDEX, steps, 0, row, (x, number) -> x.bead(column, number, 7));
            Twins.range("P8 colour", Twins.INDEX, steps, 0, 7, (x, number) -> x.bead(column, row, number));
            Twins.refused("P8 cell and colour", Twins.INDEX, steps, x -> x.bead(column + 1, row, 8));
        }
        for (Twins.Steps steps : STATES) {
            Twins.range("P8 colour", Twins.INDEX, steps, 0, 7, (x, number) -> x.bead(0, 0, number));
            Twins.refused("P8 column 8", Twins.INDEX, steps, x -> x.bead(8, 0, 0));
            Twins.refused("P8 row 6", Twins.INDEX, steps, x -> x.bead(0, 6, 0));
        }
    }

    private static void beadInEachCell() {
        BeadParley x = new BeadParley();
        x.draft(8, 6);
        for (int cell = 0; cell < 48; cell++) {
            Check.due("P8 the first colour", 0, x.bead(cell % 8, cell / 8, cell % 8));
        }
        for (int cell = 0; cell < 48; cell++) {
            Check.due("P8 the column's colour", cell % 8, x.bead(cell % 8, cell / 8, cell / 8));
        }
        for (int cell = 0; cell < 48; cell++) {
            Check.due("P8 the row's colour", cell / 8, x.bead(cell % 8, cell / 8, 7));
        }
    }

    private static void beadOfEachColour() {
        BeadParley x = new BeadParley();
        int before = 0;
        for (int pair = 0; pair < 64; pair++) {
            Check.due("P8 the colour before", before, x.bead(0, 0, pair % 8));
            Check.due("P8 the colour before", pair % 8, x.bead(0, 0, pair / 8));
            before = pair / 8;
        }
    }

    private static void patternAuthors() {
        Twins.range("P9 author", Twins.INDEX, NEW, 0, 6, (x, number) -> x.pattern(number));
        Twins.range("P9 author", Twins.INDEX, Make::some, 0, 6, (x, number) -> x.pattern(number));
        for (int author = 0; author < 7; author++) {
            BeadParley x = new BeadParley();
            x.pattern(author);
            x.bring(0, 0, 1);
            x.weave(0, 0);
            for (int person = 0; person < 7; person++) {
                Check.due("P9 its author", person == author ? 1 : 0, x.credits(person));
            }
        }
    }

    private static Twins.Steps patternsTold(int count) {
        return x -> {
            for (int pattern = 0; pattern < count; pattern++) {
                x.draft(1 + pattern % 8, 1 + pattern % 6);
                x.pattern(pattern % 7);
            }
        };
    }

    private static void patternAtMost12() {
        for (int count = 0; count < 12; count++) {
            BeadParley x = Twins.made(patternsTold(count));
            Check.due("P9 its number", count, x.pattern(6));
            Check.due("P10 one more", count + 1, x.patterns());
        }
        Twins.refused("P9 12 patterns", Twins.STATE, patternsTold(12), x -> x.pattern(0));
        Twins.refused("P9 12 patterns", Twins.STATE, patternsTold(12), x -> x.pattern(6));
        Twins.refused("P9 12 patterns, all full", Twins.STATE, Make::full, x -> x.pattern(3));
    }

    private static void patternKeepsTheDraft() {
        BeadParley x = new BeadParley();
        paintAll(x, 8, 6, 3);
        x.pattern(0);
        for (int cell = 0; cell < 48; cell++) {
            Check.due("P9 the draft stays", 3, x.bead(cell % 8, cell / 8, 2));
        }
        Check.due("P9 a pattern is as the draft was", 48, x.needs(0, 3));
        x.pattern(0);
        x.draft(1, 1);
        Check.due("P9 a pattern is as the draft was", 48, x.needs(0, 3));
        Check.due("P9 another one", 48, x.needs(1, 2));
    }

    private static void patternFirstException() {
        for (int author : new int[] {-1, 7, Integer.MIN_VALUE, Integer.MAX_VALUE}) {
            Twins.refused("P9 author before 12 patterns", Twins.INDEX, patternsTold(12), x -> x.pattern(author));
        }
    }

    private static void patternsCounts() {
        for (int count = 0; count <= 12; count++) {
            Check.due("P10 " + count, count, Twins.made(patternsTold(count)).patterns());
        }
        BeadParley x = Twins.made(patternsTold(12));
        Check.state("P9 12 patterns", () -> x.pattern(0));
        Check.due("P10 still 12", 12, x.patterns());
        BeadParley y = new BeadParley();
        Check.index("P9 no such author", () -> y.pattern(7));
        Check.due("P10 still none", 0, y.patterns());
    }

    /** Of one pattern, of some, of 12; none for a new object. */
    private static void patternNumbers() {
        for (int count : new int[] {1, 2, 5, 11, 12}) {
            Twins.Steps steps = patternsTold(count);
            Twins.range("P11 pattern", Twins.INDEX, steps, 0, count - 1, (x, number) -> x.symmetries(number));
            Twins.range("P12 pattern", Twins.INDEX, steps, 0, count - 1, (x, number) -> x.origin(number));
            Twins.range("P13 pattern", Twins.INDEX, steps, 0, count - 1, (x, number) -> x.needs(number, 0));
        }
        for (int pattern : new int[] {-1, 0, 1, 11, 12}) {
            Twins.refused("P11 none", Twins.INDEX, NEW, x -> x.symmetries(pattern));
            Twins.refused("P12 none", Twins.INDEX, NEW, x -> x.origin(pattern));
            Twins.refused("P13 none", Twins.INDEX, NEW, x -> x.needs(pattern, 0));
        }
    }

    private static void symmetriesOfEachSize() {
        for (int size = 0; size < 48; size++) {
            int columns = 1 + size % 8;
            int rows = 1 + size / 8;
            BeadParley x = new BeadParley();
            x.draft(columns, rows);
            x.pattern(0);
            Check.due("P11 one colour, " + columns + " by " + rows, columns == rows ? 15 : 7, x.symmetries(0));
            x.bead(0, 0, 1);
            x.pattern(0);
            int due = (columns == 1 ? 1 : 0) + (rows == 1 ? 2 : 0) + (columns * rows == 1 ? 12 : 0);
            Check.due("P11 a corner, " + columns + " by " + rows, due, x.symmetries(1));
            x.bead(columns - 1, rows - 1, 1);
            x.pattern(0);
            due = 4 + (columns == 1 || rows == 1 ? 3 : 0) + (columns * rows == 1 ? 8 : 0);
            Check.due("P11 two corners, " + columns + " by " + rows, due, x.symmetries(2));
            x.bead(columns - 1, 0, 1);
            x.bead(0, rows - 1, 1);
            x.pattern(0);
            Check.due("P11 four corners, " + columns + " by " + rows, columns == rows ? 15 : 7, x.symmetries(3));
        }
    }

    private static void symmetriesAre(int due, String... rows) {
        BeadParley x = new BeadParley();
        Make.pattern(x, 0, rows);
        Check.due("P11 of " + String.join("/", rows), due, x.symmetries(0));
    }

    private static void symmetriesOfEachSet() {
        symmetriesAre(0, "100", "000", "020");
        symmetriesAre(0, "11100000", "00000000", "00000000", "00000000", "00000000", "00000001");
        symmetriesAre(1, "010", "000", "000");
        symmetriesAre(1, "10000001", "00000000", "00000000", "00000000", "00000000", "00000000");
        symmetriesAre(2, "000", "100", "000");
        symmetriesAre(2, "10000000", "00000000", "00000000", "00000000", "00000000", "10000000");
        symmetriesAre(4, "100", "000", "001");
        symmetriesAre(4, "10000000", "00000000", "00000000", "00000000", "00000000", "00000001");
        symmetriesAre(7, "010", "000", "010");
        symmetriesAre(12, "0100", "0001", "1000", "0010");
        symmetriesAre(12, "01000", "00001", "00000", "10000", "00010");
        symmetriesAre(12, "010000", "000001", "000000", "000000", "100000", "000010");
        symmetriesAre(15, "0");
        symmetriesAre(15, "11", "11");
        symmetriesAre(15, "010", "101", "010");
        symmetriesAre(15, "700007", "000000", "002200", "002200", "000000", "700007");
    }

    /** One other bead where the image has another cell takes the symmetry away; in the middle it stays. */
    private static void symmetriesOfOneOtherBead() {
        for (int side = 1; side <= 6; side++) {
            for (int cell = 0; cell < side * side; cell++) {
                int column = cell % side;
                int row = cell / side;
                BeadParley x = new BeadParley();
                x.draft(side, side);
                x.bead(column, row, 6);
                x.pattern(0);
                boolean middleColumn = 2 * column == side - 1;
                boolean middleRow = 2 * row == side - 1;
                int due = (middleColumn ? 1 : 0) + (middleRow ? 2 : 0) + (middleColumn && middleRow ? 12 : 0);
                Check.due("P11 " + side + " by " + side + ", cell " + cell, due, x.symmetries(0));
            }
        }
    }

    private static void originItself() {
        BeadParley x = new BeadParley();
        for (int pattern = 0; pattern < 12; pattern++) {
            x.draft(1 + pattern % 8, 1 + pattern % 6);
            x.bead(0, 0, pattern % 7 + 1);
            x.pattern(0);
            Check.due("P12 the origin of none alike", pattern, x.origin(pattern));
        }
        Check.due("P12 the first one's", 0, x.origin(0));
    }

    private static void originIsTheLowest() {
        BeadParley x = new BeadParley();
        Make.pattern(x, 0, "11");
        for (int pattern = 1; pattern < 12; pattern++) {
            if (pattern % 2 == 1) {
                Make.pattern(x, 0, "10", "20");
            } else {
                Make.pattern(x, 0, "02", "01");
            }
        }
        Check.due("P12 alike to none", 0, x.origin(0));
        for (int pattern = 1; pattern < 12; pattern++) {
            Check.due("P12 the lowest of several", 1, x.origin(pattern));
        }
    }

    private static void originByEachImage() {
        String[][] images = {
            {"123", "045"}, {"01", "42", "53"}, {"540", "321"}, {"35", "24", "10"},
            {"321", "540"}, {"53", "42", "01"}, {"045", "123"}, {"10", "24", "35"}};
        for (String[] first : images) {
            for (String[] second : images) {
                BeadParley x = new BeadParley();
                Make.pattern(x, 0, "7");
                Make.pattern(x, 0, first);
                Make.pattern(x, 0, second);
                Check.due("P12 " + String.join("/", second) + " of " + String.join("/", first), 1, x.origin(2));
            }
        }
    }

    private static int colourOf(int column, int row) {
        return (3 * column + 5 * row + column * row * row) % 8;
    }

    /** The image as it is told: one with that many quarters turned, left and right exchanged before if it is so. */
    private static void paintImage(BeadParley x, int columns, int rows, int quarters, boolean exchanged) {
        boolean lies = quarters % 2 == 1;
        x.draft(lies ? rows : columns, lies ? columns : rows);
        for (int cell = 0; cell < columns * rows; cell++) {
            int column = exchanged ? columns - 1 - cell % columns : cell % columns;
            int row = cell / columns;
            int wide = columns;
            int high = rows;
            for (int quarter = 0; quarter < quarters; quarter++) {
                int before = column;
                column = high - 1 - row;
                row = before;
                int side = wide;
                wide = high;
                high = side;
            }
            x.bead(column, row, colourOf(cell % columns, cell / columns));
        }
    }

    private static void originOfEachSize() {
        for (int size = 0; size < 48; size++) {
            int columns = 1 + size % 8;
            int rows = 1 + size / 8;
            BeadParley x = new BeadParley();
            paintImage(x, columns, rows, 0, false);
            x.pattern(0);
            for (int image = 1; image < 8; image++) {
                int quarters = image % 4;
                if (quarters % 2 == 0 || columns <= 6) {
                    paintImage(x, columns, rows, quarters, image >= 4);
                    int number = x.pattern(0);
                    Check.due("P12 image " + image + " of " + columns + " by " + rows, 0, x.origin(number));
                }
            }
        }
    }

    private static void originNotOfAnotherSize() {
        int[][] sizes = {{6, 4}, {8, 3}, {4, 6}, {6, 2}, {4, 3}, {3, 4}, {2, 6}, {6, 1}, {3, 2}, {1, 6}, {2, 3}, {1, 1}};
        int[] due = {0, 1, 0, 3, 4, 4, 3, 7, 8, 7, 8, 11};
        BeadParley x = new BeadParley();
        for (int pattern = 0; pattern < 12; pattern++) {
            x.draft(sizes[pattern][0], sizes[pattern][1]);
            x.pattern(0);
            Check.due("P12 of as many cells in another shape, " + pattern, due[pattern], x.origin(pattern));
        }
    }

    private static void originNotByOneOtherBead() {
        for (int[] size : new int[][] {{8, 6}, {6, 6}, {3, 2}, {8, 1}, {1, 6}, {1, 1}}) {
            for (int cell = 0; cell < size[0] * size[1]; cell++) {
                BeadParley x = new BeadParley();
                x.draft(size[0], size[1]);
                x.pattern(0);
                x.bead(cell % size[0], cell / size[0], 1);
                x.pattern(0);
                Check.due("P12 one other bead at " + cell, 1, x.origin(1));
                x.bead(cell % size[0], cell / size[0], 0);
                x.pattern(0);
                Check.due("P12 that bead as it was", 0, x.origin(2));
            }
        }
    }

    private static void originNotByAHigherOne() {
        BeadParley x = new BeadParley();
        Make.pattern(x, 0, "12");
        Make.pattern(x, 0, "123");
        Make.pattern(x, 0, "321");
        Make.pattern(x, 0, "21");
        Check.due("P12 not the last one", 0, x.origin(0));
        Check.due("P12 not the next one", 1, x.origin(1));
        Check.due("P12 the one before", 1, x.origin(2));
        Check.due("P12 the first one", 0, x.origin(3));
    }

    private static void needsColours() {
        for (Twins.Steps steps : new Twins.Steps[] {Make::some, Make::full}) {
            Twins.range("P13 colour", Twins.INDEX, steps, 0, 7, (x, number) -> x.needs(1, number));
            Twins.refused("P13 both", Twins.INDEX, steps, x -> x.needs(12, 8));
        }
    }

    private static void needsOfEachSize() {
        for (int size = 0; size < 48; size++) {
            int columns = 1 + size % 8;
            int rows = 1 + size / 8;
            BeadParley x = new BeadParley();
            paintAll(x, columns, rows, 7);
            x.pattern(0);
            x.bead(columns - 1, rows - 1, 0);
            x.pattern(0);
            Check.due("P13 all of one colour", columns * rows, x.needs(0, 7));
            Check.due("P13 none of the colour 0", 0, x.needs(0, 0));
            Check.due("P13 all but the last cell", columns * rows - 1, x.needs(1, 7));
            Check.due("P13 the last cell", 1, x.needs(1, 0));
        }
    }

    private static void askingChangesNothing() {
        for (Twins.Steps steps : new Twins.Steps[] {Make::some, Make::full}) {
            Twins.changesNothing("P10", steps, x -> x.patterns());
            Twins.changesNothing("P11", steps, x -> x.symmetries(1));
            Twins.changesNothing("P12", steps, x -> x.origin(1));
            Twins.changesNothing("P13", steps, x -> x.needs(1, 1));
        }
    }
}
