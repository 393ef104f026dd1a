import java.util.Arrays;

/** A pattern loom, a barter fair and a teller of stories; ../shared/DOC.md says what each call does. */
public final class BeadParley {
    public static final int NONE = -1;

    private static final int PEOPLE = 7;
    private static final int COLOURS = 8;
    private static final int MOST_BEADS_IN_A_CALL = 1000;
    private static final int MOST_IN_A_HAND = 100000;
    private static final int MOST_COLUMNS = 8;
    private static final int MOST_ROWS = 6;
    private static final int MOST_PATTERNS = 12;
    private static final int MOST_BELTS = 20;
    private static final int MOST_SIGNS = 8;
    private static final int MOST_SIGN_SIDE = 3;
    private static final int MOST_WORTH = 100;
    /** The orders of seven people. */
    private static final int MOST_ORDERS = 5040;

    // An image's number: how many quarters it is turned, and 4 more if left and right were exchanged before.
    private static final int IMAGES = 8;
    private static final int QUARTER_TURNED = 1;
    private static final int HALF_TURNED = 2;
    private static final int LEFT_RIGHT_EXCHANGED = 4;
    private static final int TOP_BOTTOM_EXCHANGED = 6;

    private final int[][] hands = new int[PEOPLE][COLOURS];
    private final int[] stall = new int[COLOURS];
    private final int[] broughtSoFar = new int[COLOURS];

    private final Grid draftGrid = new Grid();
    private final Grid[] patternGrids = new Grid[MOST_PATTERNS];
    private final int[] patternAuthors = new int[MOST_PATTERNS];
    private int patternCount;

    /** The pattern of each belt; NONE marks a number that is free. */
    private final int[] beltPatterns = new int[MOST_BELTS];
    private final int[] beltOwners = new int[MOST_BELTS];
    private final int[] creditsOf = new int[PEOPLE];

    private final Barter barter = new Barter();

    private final Grid[] signGrids = new Grid[MOST_SIGNS];
    private final int[] signWorths = new int[MOST_SIGNS];
    private int signCount;
    private final long[] heard = new long[PEOPLE];

    public BeadParley() {
        for (int pattern = 0; pattern < MOST_PATTERNS; pattern++) {
            patternGrids[pattern] = new Grid();
        }
        for (int sign = 0; sign < MOST_SIGNS; sign++) {
            signGrids[sign] = new Grid();
        }
        Arrays.fill(beltPatterns, NONE);
    }

    // ---- beads

    public int bring(int person, int colour, int beads)
            throws IndexOutOfBoundsException, IllegalArgumentException, IllegalStateException {
        checkPerson(person);
        checkColour(colour);
        checkRange(beads, 1, MOST_BEADS_IN_A_CALL);
        int inHand = hands[person][colour] + beads;
        if (inHand > MOST_IN_A_HAND) {
            throw new IllegalStateException("too many beads in the hand");
        }
        hands[person][colour] = inHand;
        broughtSoFar[colour] += beads;
        return inHand;
    }

    public int lay(int person, int colour, int beads)
            throws IndexOutOfBoundsException, IllegalArgumentException, IllegalStateException {
        checkPerson(person);
        checkColour(colour);
        checkRange(beads, -MOST_BEADS_IN_A_CALL, MOST_BEADS_IN_A_CALL);
        int inHand = hands[person][colour] - beads;
        int onStall = stall[colour] + beads;
        if (inHand < 0 || onStall < 0) {
            throw new IllegalStateException("too few beads");
        }
        if (inHand > MOST_IN_A_HAND) {
            throw new IllegalStateException("too many beads in the hand");
        }
        hands[person][colour] = inHand;
        stall[colour] = onStall;
        return onStall;
    }

    public int hand(int person, int colour) throws IndexOutOfBoundsException {
        checkPerson(person);
        checkColour(colour);
        return hands[person][colour];
    }

    public int beads(int colour) throws IndexOutOfBoundsException {
        checkColour(colour);
        int sum = stall[colour];
        for (int person = 0; person < PEOPLE; person++) {
            sum += hands[person][colour];
        }
        for (int belt = 0; belt < MOST_BELTS; belt++) {
            if (isBelt(belt)) {
                sum += patternGrids[beltPatterns[belt]].cellsOf(colour);
            }
        }
        return sum;
    }

    public int brought(int colour) throws IndexOutOfBoundsException {
        checkColour(colour);
        return broughtSoFar[colour];
    }

    // ---- drafts and patterns

    public int draft(int columns, int rows) throws IllegalArgumentException {
        checkRange(columns, 1, MOST_COLUMNS);
        checkRange(rows, 1, MOST_ROWS);
        draftGrid.begin(columns, rows);
        return draftGrid.size();
    }

    public int bead(int column, int row, int colour) throws IndexOutOfBoundsException {
        if (!draftGrid.hasCell(column, row)) {
            throw new IndexOutOfBoundsException("no such cell");
        }
        checkColour(colour);
        int before = draftGrid.colourAt(column, row);
        draftGrid.paint(column, row, colour);
        return before;
    }

    public int pattern(int author) throws IndexOutOfBoundsException, IllegalStateException {
        checkPerson(author);
        if (patternCount >= MOST_PATTERNS) {
            throw new IllegalStateException("no room for a pattern");
        }
        int number = patternCount;
        patternGrids[number].copyFrom(draftGrid);
        patternAuthors[number] = author;
        patternCount++;
        return number;
    }

    public int patterns() {
        return patternCount;
    }

    public int symmetries(int pattern) throws IndexOutOfBoundsException {
        checkPattern(pattern);
        Grid grid = patternGrids[pattern];
        return (grid.hasImage(LEFT_RIGHT_EXCHANGED, grid) ? 1 : 0)
                + (grid.hasImage(TOP_BOTTOM_EXCHANGED, grid) ? 2 : 0)
                + (grid.hasImage(HALF_TURNED, grid) ? 4 : 0)
                + (grid.hasImage(QUARTER_TURNED, grid) ? 8 : 0);
    }

    public int origin(int pattern) throws IndexOutOfBoundsException {
        checkPattern(pattern);
        return originOf(pattern);
    }

    public int needs(int pattern, int colour) throws IndexOutOfBoundsException {
        checkPattern(pattern);
        checkColour(colour);
        return patternGrids[pattern].cellsOf(colour);
    }

    // ---- belts

    public int weave(int person, int pattern) throws IndexOutOfBoundsException, IllegalStateException {
        checkPerson(person);
        checkPattern(pattern);
        int belt = lowestFreeBelt();
        if (belt == NONE) {
            throw new IllegalStateException("no room for a belt");
        }
        Grid grid = patternGrids[pattern];
        for (int colour = 0; colour < COLOURS; colour++) {
            if (hands[person][colour] < grid.cellsOf(colour)) {
                throw new IllegalStateException("too few beads in the hand");
            }
        }
        for (int colour = 0; colour < COLOURS; colour++) {
            hands[person][colour] -= grid.cellsOf(colour);
        }
        beltPatterns[belt] = pattern;
        beltOwners[belt] = person;
        creditsOf[patternAuthors[originOf(pattern)]]++;
        return belt;
    }

    public int apart(int belt) throws IndexOutOfBoundsException, IllegalStateException {
        checkBelt(belt);
        Grid grid = patternGrids[beltPatterns[belt]];
        int[] ownersHand = hands[beltOwners[belt]];
        for (int colour = 0; colour < COLOURS; colour++) {
            if (ownersHand[colour] + grid.cellsOf(colour) > MOST_IN_A_HAND) {
                throw new IllegalStateException("too many beads in the hand");
            }
        }
        for (int colour = 0; colour < COLOURS; colour++) {
            ownersHand[colour] += grid.cellsOf(colour);
        }
        beltPatterns[belt] = NONE;
        return grid.size();
    }

    public int give(int belt, int person) throws IndexOutOfBoundsException {
        checkBelt(belt);
        checkPerson(person);
        int before = beltOwners[belt];
        beltOwners[belt] = person;
        return before;
    }

    public int owner(int belt) throws IndexOutOfBoundsException {
        checkBelt(belt);
        return beltOwners[belt];
    }

    public int credits(int person) throws IndexOutOfBoundsException {
        checkPerson(person);
        return creditsOf[person];
    }

    // ---- barter

    public boolean wish(int person, int gives, int wants)
            throws IndexOutOfBoundsException, IllegalArgumentException {
        checkPerson(person);
        checkColour(gives);
        checkColour(wants);
        if (gives == wants) {
            throw new IllegalArgumentException("the same colour for itself");
        }
        boolean before = barter.hasWish(person);
        barter.setWish(person, gives, wants);
        return before;
    }

    public boolean unwish(int person) throws IndexOutOfBoundsException {
        checkPerson(person);
        boolean before = barter.hasWish(person);
        barter.setWish(person, NONE, NONE);
        return before;
    }

    public int chain() {
        barter.findBest(hands);
        return barter.bestLength;
    }

    public int chainByOrders() {
        return barter.longestByOrders(hands);
    }

    public int chainAt(int place) throws IndexOutOfBoundsException {
        barter.findBest(hands);
        if (place < 0 || place >= barter.bestLength) {
            throw new IndexOutOfBoundsException("no such place in the best chain");
        }
        return barter.best[place];
    }

    public int fair() {
        barter.findBest(hands);
        barter.exchange(hands);
        return barter.bestLength;
    }

    // ---- stories

    public int sign(int worth) throws IllegalArgumentException, IllegalStateException {
        checkRange(worth, 1, MOST_WORTH);
        if (draftGrid.columns > MOST_SIGN_SIDE || draftGrid.rows > MOST_SIGN_SIDE) {
            throw new IllegalStateException("the draft is too large for a sign");
        }
        if (signCount >= MOST_SIGNS) {
            throw new IllegalStateException("no room for a sign");
        }
        int number = signCount;
        signGrids[number].copyFrom(draftGrid);
        signWorths[number] = worth;
        signCount++;
        return number;
    }

    public int stands(int sign, int pattern) throws IndexOutOfBoundsException {
        if (sign < 0 || sign >= signCount) {
            throw new IndexOutOfBoundsException("no such sign");
        }
        checkPattern(pattern);
        return patternGrids[pattern].placesOf(signGrids[sign]);
    }

    public int story(int pattern) throws IndexOutOfBoundsException {
        checkPattern(pattern);
        return storyOf(pattern);
    }

    public long hear(int belt, int person) throws IndexOutOfBoundsException {
        checkBelt(belt);
        checkPerson(person);
        heard[person] += storyOf(beltPatterns[belt]);
        return heard[person];
    }

    public int ranked(int rank) throws IndexOutOfBoundsException {
        if (rank < 0 || rank >= PEOPLE) {
            throw new IndexOutOfBoundsException("no such rank");
        }
        int person = 0;
        while (person < PEOPLE - 1 && rankOf(person) != rank) {
            person++;
        }
        return person;
    }

    // ---- what several calls need

    private static void checkPerson(int person) {
        if (person < 0 || person >= PEOPLE) {
            throw new IndexOutOfBoundsException("no such person");
        }
    }

    private static void checkColour(int colour) {
        if (colour < 0 || colour >= COLOURS) {
            throw new IndexOutOfBoundsException("no such colour");
        }
    }

    private void checkPattern(int pattern) {
        if (pattern < 0 || pattern >= patternCount) {
            throw new IndexOutOfBoundsException("no such pattern");
        }
    }

    private void checkBelt(int belt) {
        if (!isBelt(belt)) {
            throw new IndexOutOfBoundsException("no such belt");
        }
    }

    private static void checkRange(int number, int least, int most) {
        if (number < least || number > most) {
            throw new IllegalArgumentException("out of its range");
        }
    }

    private boolean isBelt(int belt) {
        return belt >= 0 && belt < MOST_BELTS && beltPatterns[belt] != NONE;
    }

    private int lowestFreeBelt() {
        for (int belt = 0; belt < MOST_BELTS; belt++) {
            if (!isBelt(belt)) {
                return belt;
            }
        }
        return NONE;
    }

    private int originOf(int pattern) {
        for (int lower = 0; lower < pattern; lower++) {
            for (int image = 0; image < IMAGES; image++) {
                if (patternGrids[pattern].hasImage(image, patternGrids[lower])) {
                    return lower;
                }
            }
        }
        return pattern;
    }

    private int storyOf(int pattern) {
        int sum = 0;
        for (int sign = 0; sign < signCount; sign++) {
            sum += signWorths[sign] * patternGrids[pattern].placesOf(signGrids[sign]);
        }
        return sum;
    }

    private int rankOf(int person) {
        int ahead = 0;
        for (int other = 0; other < PEOPLE; other++) {
            if (heard[other] > heard[person] || heard[other] == heard[person] && other < person) {
                ahead++;
            }
        }
        return ahead;
    }

    /** A grid of colours: the draft, a pattern or a sign. */
    private static final class Grid {
        /** Row by row; the cells behind the last row are not used. */
        private final int[] cells = new int[MOST_COLUMNS * MOST_ROWS];
        private int columns = 1;
        private int rows = 1;

        private void begin(int newColumns, int newRows) {
            columns = newColumns;
            rows = newRows;
            Arrays.fill(cells, 0);
        }

        private void copyFrom(Grid other) {
            columns = other.columns;
            rows = other.rows;
            System.arraycopy(other.cells, 0, cells, 0, cells.length);
        }

        private int size() {
            return columns * rows;
        }

        private boolean hasCell(int column, int row) {
            return column >= 0 && column < columns && row >= 0 && row < rows;
        }

        private int colourAt(int column, int row) {
            return cells[row * columns + column];
        }

        private void paint(int column, int row, int colour) {
            cells[row * columns + column] = colour;
        }

        private int cellsOf(int colour) {
            int count = 0;
            for (int cell = 0; cell < size(); cell++) {
                if (cells[cell] == colour) {
                    count++;
                }
            }
            return count;
        }

        /** Whether the image of this grid with that number is alike to the other grid. */
        private boolean hasImage(int image, Grid other) {
            boolean lying = (image & QUARTER_TURNED) != 0;
            if (other.columns != (lying ? rows : columns) || other.rows != (lying ? columns : rows)) {
                return false;
            }
            for (int row = 0; row < other.rows; row++) {
                for (int column = 0; column < other.columns; column++) {
                    if (colourInImage(image, column, row) != other.colourAt(column, row)) {
                        return false;
                    }
                }
            }
            return true;
        }

        /** Goes back from a cell of the image: first the turn, then the exchange of left and right. */
        private int colourInImage(int image, int column, int row) {
            int fromColumn = column;
            int fromRow = row;
            switch (image & 3) {
                case 1:
                    fromColumn = row;
                    fromRow = rows - 1 - column;
                    break;
                case 2:
                    fromColumn = columns - 1 - column;
                    fromRow = rows - 1 - row;
                    break;
                case 3:
                    fromColumn = columns - 1 - row;
                    fromRow = column;
                    break;
                default:
                    break;
            }
            if ((image & LEFT_RIGHT_EXCHANGED) != 0) {
                fromColumn = columns - 1 - fromColumn;
            }
            return colourAt(fromColumn, fromRow);
        }

        private int placesOf(Grid small) {
            int places = 0;
            for (int row = 0; row + small.rows <= rows; row++) {
                for (int column = 0; column + small.columns <= columns; column++) {
                    if (shows(small, column, row)) {
                        places++;
                    }
                }
            }
            return places;
        }

        /** Asked only where the small grid lies in this one. */
        private boolean shows(Grid small, int column, int row) {
            for (int down = 0; down < small.rows; down++) {
                for (int right = 0; right < small.columns; right++) {
                    if (colourAt(column + right, row + down) != small.colourAt(right, down)) {
                        return false;
                    }
                }
            }
            return true;
        }
    }

    /** The wishes and the search for the best chain; its rows are used again by each search. */
    private static final class Barter {
        /** NONE for those who have no wish. */
        private final int[] gives = new int[PEOPLE];
        private final int[] wants = new int[PEOPLE];
        private final boolean[] ready = new boolean[PEOPLE];
        private final int[] row = new int[PEOPLE];
        private final int[] best = new int[PEOPLE];
        private int bestLength;

        private Barter() {
            Arrays.fill(gives, NONE);
            Arrays.fill(wants, NONE);
        }

        private boolean hasWish(int person) {
            return gives[person] != NONE;
        }

        private void setWish(int person, int colourGiven, int colourWanted) {
            gives[person] = colourGiven;
            wants[person] = colourWanted;
        }

        private void markReady(int[][] hands) {
            for (int person = 0; person < PEOPLE; person++) {
                ready[person] = hasWish(person) && hands[person][gives[person]] > 0;
            }
        }

        private boolean getsFrom(int person, int next) {
            return wants[person] == gives[next];
        }

        private void findBest(int[][] hands) {
            markReady(hands);
            bestLength = 0;
            for (int first = 0; first < PEOPLE; first++) {
                if (ready[first]) {
                    row[0] = first;
                    extend(this, 1);
                }
            }
        }

        /**
         * Tries all chains that begin with the first ones of the row. Rows come by rising numbers, so of
         * chains with the same length the best one comes first, and only a longer one takes its place.
         */
        private static void extend(Barter barter, int length) {
            if (length < 1 || length > PEOPLE) {
                return;
            }
            int[] row = barter.row;
            int last = row[length - 1];
            if (length > 1 && length > barter.bestLength && barter.getsFrom(last, row[0])) {
                System.arraycopy(row, 0, barter.best, 0, length);
                barter.bestLength = length;
            }
            for (int next = row[0] + 1; next < PEOPLE && length < PEOPLE; next++) {
                if (barter.ready[next] && barter.getsFrom(last, next) && !barter.isInRow(next, length)) {
                    row[length] = next;
                    extend(barter, length + 1);
                }
            }
        }

        private boolean isInRow(int person, int length) {
            for (int place = 0; place < length; place++) {
                if (row[place] == person) {
                    return true;
                }
            }
            return false;
        }

        private void exchange(int[][] hands) {
            for (int place = 0; place < bestLength; place++) {
                int person = best[place];
                int next = best[place + 1 < bestLength ? place + 1 : 0];
                hands[person][wants[person]]++;
                hands[next][wants[person]]--;
            }
        }

        private int longestByOrders(int[][] hands) {
            markReady(hands);
            int people = 0;
            for (int person = 0; person < PEOPLE; person++) {
                if (ready[person]) {
                    row[people] = person;
                    people++;
                }
            }
            int longest = 0;
            boolean more = true;
            for (int order = 0; order < MOST_ORDERS && more; order++) {
                longest = Math.max(longest, longestAtStartOfRow(people));
                more = nextOrder(people);
            }
            return longest;
        }

        private int longestAtStartOfRow(int people) {
            int longest = 0;
            for (int length = 2; length <= people && getsFrom(row[length - 2], row[length - 1]); length++) {
                if (getsFrom(row[length - 1], row[0])) {
                    longest = length;
                }
            }
            return longest;
        }

        /** Puts the row into the next order by rising numbers; answers false at the last one. */
        private boolean nextOrder(int people) {
            int rise = people - 2;
            while (rise >= 0 && row[rise] > row[rise + 1]) {
                rise--;
            }
            if (rise < 0) {
                return false;
            }
            int higher = people - 1;
            while (higher > rise + 1 && row[higher] < row[rise]) {
                higher--;
            }
            swap(rise, higher);
            for (int left = rise + 1, right = people - 1; left < right; left++, right--) {
                swap(left, right);
            }
            return true;
        }

        private void swap(int place, int other) {
            int person = row[place];
            row[place] = row[other];
            row[other] = person;
        }
    }
}
