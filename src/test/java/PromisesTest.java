/** For each promise: ordinary inputs, the edges that the document names, and wrong inputs. */
public final class PromisesTest {
    private static final int[] OUTSIDE_INTS = {-1, Integer.MIN_VALUE, Integer.MAX_VALUE};

    private PromisesTest() {
    }

    public static void main(String[] args) {
        newObject();
        bring();
        lay();
        handBeadsAndBrought();
        draft();
        bead();
        pattern();
        symmetries();
        origin();
        originTakesAllEightImages();
        needs();
        weave();
        weaveNumbersAndRoom();
        apart();
        eachColourInBelts();
        giveAndOwner();
        credits();
        wishAndUnwish();
        chain();
        chainByAnyRound();
        chainAtAlone();
        chainNeedsBeads();
        chainTies();
        fair();
        fairOverTheLimit();
        sign();
        stands();
        story();
        hear();
        ranked();
        throwingChangesNothing();
        manyCalls();
        Check.report("PromisesTest");
    }

    /** All that can be asked, in one text. */
    private static String told(BeadParley x) {
        StringBuilder text = new StringBuilder();
        for (int colour = 0; colour < 8; colour++) {
            text.append(x.beads(colour)).append(',').append(x.brought(colour)).append(';');
            for (int person = 0; person < 7; person++) {
                text.append(x.hand(person, colour)).append(' ');
            }
        }
        for (int person = 0; person < 7; person++) {
            text.append(x.credits(person)).append(' ').append(x.ranked(person)).append(' ');
        }
        for (int belt = 0; belt < 20; belt++) {
            int number = belt;
            text.append(Check.answerOf(() -> x.owner(number))).append(' ');
        }
        text.append("chain ").append(x.chain()).append(' ').append(x.chainByOrders());
        for (int place = 0; place < x.chain(); place++) {
            text.append(' ').append(x.chainAt(place));
        }
        text.append(" patterns ").append(x.patterns());
        for (int pattern = 0; pattern < x.patterns(); pattern++) {
            text.append(' ').append(x.symmetries(pattern)).append(' ').append(x.origin(pattern));
            text.append(' ').append(x.story(pattern));
        }
        return text.toString();
    }

    private static void newObject() {
        BeadParley x = new BeadParley();
        Check.due("P1 NONE", -1, BeadParley.NONE);
        Check.due("P1 patterns", 0, x.patterns());
        Check.due("P1 chain", 0, x.chain());
        Check.due("P1 chainByOrders", 0, x.chainByOrders());
        Check.due("P1 fair", 0, x.fair());
        for (int colour = 0; colour < 8; colour++) {
            Check.due("P1 beads", 0, x.beads(colour));
            Check.due("P1 brought", 0, x.brought(colour));
            for (int person = 0; person < 7; person++) {
                Check.due("P1 hand", 0, x.hand(person, colour));
            }
        }
        for (int person = 0; person < 7; person++) {
            Check.due("P1 credits", 0, x.credits(person));
            Check.due("P1 ranked", person, x.ranked(person));
            Check.due("P1 no wish", false, x.unwish(person));
        }
        Check.index("P1 no belt", () -> x.owner(0));
        Check.index("P1 no pattern", () -> x.needs(0, 0));
        Check.due("P1 the first draft has the colour 0", 0, x.bead(0, 0, 3));
        Check.index("P1 the first draft has one column", () -> x.bead(1, 0, 0));
        Check.index("P1 the first draft has one row", () -> x.bead(0, 1, 0));
        x.pattern(0);
        Check.index("P1 no sign", () -> x.stands(0, 0));
        Check.due("P1 no signs, no story", 0, x.story(0));
        Check.due("P1 objects are apart", 0, new BeadParley().patterns());
    }

    private static void bring() {
        BeadParley x = new BeadParley();
        Check.due("P2 some", 5, x.bring(2, 3, 5));
        Check.due("P2 more of it", 1005, x.bring(2, 3, 1000));
        Check.due("P2 another colour", 1, x.bring(2, 4, 1));
        Check.due("P2 another person", 7, x.bring(6, 7, 7));
        Check.argument("P2 0 beads", () -> x.bring(0, 0, 0));
        Check.argument("P2 1001 beads", () -> x.bring(0, 0, 1001));
        for (int outside : OUTSIDE_INTS) {
            Check.argument("P2 beads " + outside, () -> x.bring(0, 0, outside));
            Check.index("P2 person before beads", () -> x.bring(outside, 0, 0));
            Check.index("P2 colour before beads", () -> x.bring(0, outside, 0));
        }
        Check.index("P2 person 7", () -> x.bring(7, 0, 1));
        Check.index("P2 colour 8", () -> x.bring(0, 8, 1));
        Make.fill(x, 1, 1, 99999);
        Check.due("P2 just 100000", 100000, x.bring(1, 1, 1));
        Check.state("P2 one too many", () -> x.bring(1, 1, 1));
        Check.argument("P2 beads before the hand", () -> x.bring(1, 1, 1001));
        Check.due("P2 the limit is by colour", 1000, x.bring(1, 2, 1000));
        Check.due("P2 what threw brought nothing", 100000, x.brought(1));
        Check.due("P2 what threw left the hand", 100000, x.hand(1, 1));
    }

    private static void lay() {
        BeadParley x = new BeadParley();
        x.bring(0, 5, 1000);
        Check.due("P3 some", 10, x.lay(0, 5, 10));
        Check.due("P3 hand after", 990, x.hand(0, 5));
        Check.due("P3 none", 10, x.lay(0, 5, 0));
        Check.due("P3 all the rest", 1000, x.lay(0, 5, 990));
        Check.state("P3 none left", () -> x.lay(0, 5, 1));
        Check.due("P3 somebody else takes", 600, x.lay(3, 5, -400));
        Check.due("P3 their hand", 400, x.hand(3, 5));
        Check.state("P3 too few on the stall", () -> x.lay(3, 5, -601));
        Check.due("P3 all of it", 0, x.lay(3, 5, -600));
        Check.state("P3 nothing of another colour", () -> x.lay(3, 4, -1));
        Check.due("P3 1000 at once", 1000, x.lay(3, 5, 1000));
        Check.due("P3 -1000 at once", 0, x.lay(3, 5, -1000));
        Check.argument("P3 1001", () -> x.lay(3, 5, 1001));
        Check.argument("P3 -1001", () -> x.lay(3, 5, -1001));
        for (int outside : new int[] {Integer.MIN_VALUE, Integer.MAX_VALUE}) {
            Check.argument("P3 beads " + outside, () -> x.lay(3, 5, outside));
            Check.index("P3 person before beads", () -> x.lay(outside, 5, outside));
            Check.index("P3 colour before beads", () -> x.lay(3, outside, outside));
        }
        Check.index("P3 person 7", () -> x.lay(7, 0, 0));
        Check.index("P3 person -1", () -> x.lay(-1, 0, 0));
        Check.index("P3 colour 8", () -> x.lay(0, 8, 0));
        Check.index("P3 colour -1", () -> x.lay(0, -1, 0));
        Make.fill(x, 1, 5, 99999);
        x.lay(3, 5, 2);
        Check.state("P3 hand over 100000", () -> x.lay(1, 5, -2));
        Check.due("P3 hand of just 100000", 1, x.lay(1, 5, -1));
        Check.due("P3 hand then", 100000, x.hand(1, 5));
        Check.due("P3 lays from a full hand", 1001, x.lay(1, 5, 1000));
    }

    private static void handBeadsAndBrought() {
        BeadParley x = new BeadParley();
        int pattern = Make.pattern(x, 0, "1123", "4211");
        x.bring(0, 1, 9);
        x.bring(0, 2, 3);
        x.bring(0, 3, 1);
        x.bring(0, 4, 1);
        x.bring(5, 1, 2);
        x.lay(5, 1, 1);
        x.weave(0, pattern);
        Check.due("P4 after weaving", 5, x.hand(0, 1));
        Check.due("P4 after laying", 1, x.hand(5, 1));
        Check.due("P4 another colour", 0, x.hand(5, 2));
        Check.due("P5 hands, stall and belts", 11, x.beads(1));
        Check.due("P5 hands and belts", 3, x.beads(2));
        Check.due("P5 none", 0, x.beads(7));
        Check.due("P6 brought by two", 11, x.brought(1));
        Check.due("P6 brought by one", 3, x.brought(2));
        Check.due("P6 none", 0, x.brought(0));
        x.give(0, 3);
        x.apart(0);
        Check.due("P4 after taking apart", 4, x.hand(3, 1));
        Check.due("P5 after taking apart", 11, x.beads(1));
        Check.due("P6 after taking apart", 11, x.brought(1));
        for (int outside : new int[] {-1, 8, Integer.MIN_VALUE, Integer.MAX_VALUE}) {
            Check.index("P4 colour", () -> x.hand(0, outside));
            Check.index("P5 colour", () -> x.beads(outside));
            Check.index("P6 colour", () -> x.brought(outside));
        }
        for (int outside : new int[] {-1, 7, Integer.MIN_VALUE, Integer.MAX_VALUE}) {
            Check.index("P4 person", () -> x.hand(outside, 0));
        }
    }

    private static void draft() {
        BeadParley x = new BeadParley();
        Check.due("P7 largest", 48, x.draft(8, 6));
        for (int row = 0; row < 6; row++) {
            for (int column = 0; column < 8; column++) {
                Check.due("P7 all 0", 0, x.bead(column, row, 7));
            }
        }
        Check.due("P7 begun anew", 48, x.draft(8, 6));
        Check.due("P7 0 again", 0, x.bead(7, 5, 1));
        Check.due("P7 0 again", 0, x.bead(0, 0, 1));
        Check.due("P7 smallest", 1, x.draft(1, 1));
        Check.due("P7 0 in the small one", 0, x.bead(0, 0, 0));
        Check.due("P7 columns first", 14, x.draft(7, 2));
        Check.due("P7 six columns are left", 0, x.bead(6, 1, 0));
        Check.index("P7 two rows", () -> x.bead(1, 2, 0));
        Check.argument("P7 0 columns", () -> x.draft(0, 1));
        Check.argument("P7 9 columns", () -> x.draft(9, 1));
        Check.argument("P7 0 rows", () -> x.draft(1, 0));
        Check.argument("P7 7 rows", () -> x.draft(1, 7));
        for (int outside : OUTSIDE_INTS) {
            Check.argument("P7 columns " + outside, () -> x.draft(outside, 1));
            Check.argument("P7 rows " + outside, () -> x.draft(1, outside));
        }
        Check.due("P7 what threw left the draft", 0, x.bead(6, 1, 0));
    }

    private static void bead() {
        BeadParley x = new BeadParley();
        x.draft(3, 2);
        Check.due("P8 first", 0, x.bead(2, 1, 7));
        Check.due("P8 the one before", 7, x.bead(2, 1, 4));
        Check.due("P8 again", 4, x.bead(2, 1, 0));
        Check.due("P8 another cell", 0, x.bead(1, 1, 5));
        Check.due("P8 not the neighbour", 0, x.bead(2, 0, 6));
        Check.index("P8 column 3", () -> x.bead(3, 0, 0));
        Check.index("P8 row 2", () -> x.bead(0, 2, 0));
        Check.index("P8 colour 8", () -> x.bead(0, 0, 8));
        for (int outside : OUTSIDE_INTS) {
            Check.index("P8 column", () -> x.bead(outside, 0, 0));
            Check.index("P8 row", () -> x.bead(0, outside, 0));
            Check.index("P8 colour", () -> x.bead(1, 1, outside));
        }
        Check.due("P8 what threw left the cell", 5, x.bead(1, 1, 0));
    }

    private static void pattern() {
        BeadParley x = new BeadParley();
        x.draft(2, 1);
        x.bead(0, 0, 3);
        Check.due("P9 first", 0, x.pattern(0));
        Check.due("P9 the draft stays", 3, x.bead(0, 0, 4));
        Check.due("P9 the pattern stays as it was", 1, x.needs(0, 3));
        Check.due("P9 second", 1, x.pattern(6));
        Check.due("P9 the draft then", 1, x.needs(1, 4));
        x.draft(8, 6);
        Check.due("P9 the pattern has its own size", 1, x.needs(1, 0));
        for (int outside : new int[] {-1, 7, Integer.MIN_VALUE, Integer.MAX_VALUE}) {
            Check.index("P9 author", () -> x.pattern(outside));
        }
        Check.due("P10 two", 2, x.patterns());
        for (int number = 2; number < 12; number++) {
            Check.due("P9 next", number, x.pattern(1));
            Check.due("P10 counts", number + 1, x.patterns());
        }
        Check.state("P9 12 patterns", () -> x.pattern(1));
        Check.index("P9 author before room", () -> x.pattern(7));
        Check.due("P10 twelve", 12, x.patterns());
    }

    private static int symmetriesOf(String... rows) {
        BeadParley x = new BeadParley();
        return x.symmetries(Make.pattern(x, 0, rows));
    }

    private static void symmetries() {
        Check.due("P11 one cell", 15, symmetriesOf("5"));
        Check.due("P11 none", 0, symmetriesOf("12", "34"));
        Check.due("P11 left and right", 1, symmetriesOf("121", "343"));
        Check.due("P11 top and bottom", 2, symmetriesOf("12", "34", "12"));
        Check.due("P11 half", 4, symmetriesOf("12", "21"));
        Check.due("P11 half, lying", 4, symmetriesOf("123", "321"));
        Check.due("P11 both and half", 7, symmetriesOf("121", "121"));
        Check.due("P11 a quarter and half", 12, symmetriesOf("0100", "0001", "1000", "0010"));
        Check.due("P11 all", 15, symmetriesOf("121", "202", "121"));
        Check.due("P11 a square without a quarter", 7, symmetriesOf("121", "000", "121"));
        Check.due("P11 all of one colour, not square", 7, symmetriesOf("00000000", "00000000"));
        Check.due("P11 a diagonal alone is none", 0, symmetriesOf("12", "24"));
        Check.due("P11 a row is its own top and bottom", 2, symmetriesOf("12"));
        Check.due("P11 a column is its own left and right", 1, symmetriesOf("1", "2"));
        BeadParley x = new BeadParley();
        x.pattern(0);
        for (int outside : new int[] {-1, 1, 12, Integer.MIN_VALUE, Integer.MAX_VALUE}) {
            Check.index("P11 pattern", () -> x.symmetries(outside));
        }
    }

    private static void origin() {
        BeadParley x = new BeadParley();
        Make.pattern(x, 0, "123", "000");
        Make.pattern(x, 0, "321", "001");
        Make.pattern(x, 0, "321", "000");
        Make.pattern(x, 0, "01", "02", "03");
        Make.pattern(x, 0, "123", "000");
        Make.pattern(x, 0, "100", "123");
        Make.pattern(x, 0, "1230", "0000");
        Make.pattern(x, 0, "123000");
        int[] due = {0, 1, 0, 0, 0, 1, 6, 7};
        for (int number = 0; number < due.length; number++) {
            Check.due("P12 of " + number, due[number], x.origin(number));
        }
        for (int outside : new int[] {-1, 8, 12, Integer.MIN_VALUE, Integer.MAX_VALUE}) {
            Check.index("P12 pattern", () -> x.origin(outside));
        }
    }

    private static void originTakesAllEightImages() {
        BeadParley x = new BeadParley();
        Make.pattern(x, 0, "123", "456");
        Make.pattern(x, 0, "41", "52", "63");
        Make.pattern(x, 0, "654", "321");
        Make.pattern(x, 0, "36", "25", "14");
        Make.pattern(x, 0, "321", "654");
        Make.pattern(x, 0, "63", "52", "41");
        Make.pattern(x, 0, "456", "123");
        Make.pattern(x, 0, "14", "25", "36");
        for (int number = 0; number < 8; number++) {
            Check.due("P12 image " + number, 0, x.origin(number));
        }
        Make.pattern(x, 0, "142", "536");
        Check.due("P12 as many beads are not enough", 8, x.origin(8));
    }

    private static void needs() {
        BeadParley x = new BeadParley();
        Make.pattern(x, 0, "00112377", "77777777");
        int[] due = {2, 2, 1, 1, 0, 0, 0, 10};
        for (int colour = 0; colour < 8; colour++) {
            Check.due("P13 colour " + colour, due[colour], x.needs(0, colour));
        }
        Make.pattern(x, 0, "0");
        Check.due("P13 a small one after a large draft", 1, x.needs(1, 0));
        Check.due("P13 nothing else in it", 0, x.needs(1, 7));
        for (int outside : OUTSIDE_INTS) {
            Check.index("P13 pattern", () -> x.needs(outside, 0));
            Check.index("P13 colour", () -> x.needs(0, outside));
        }
        Check.index("P13 pattern 2", () -> x.needs(2, 0));
        Check.index("P13 colour 8", () -> x.needs(0, 8));
    }

    private static void weave() {
        BeadParley x = new BeadParley();
        Make.pattern(x, 4, "1122", "1122");
        x.bring(3, 1, 8);
        x.bring(3, 2, 7);
        Check.due("P14 first", 0, x.weave(3, 0));
        Check.due("P14 its owner", 3, x.owner(0));
        Check.due("P14 beads of one colour", 4, x.hand(3, 1));
        Check.due("P14 beads of the other one", 3, x.hand(3, 2));
        Check.state("P14 one bead too few", () -> x.weave(3, 0));
        Check.due("P14 what threw took nothing", 4, x.hand(3, 1));
        Check.due("P14 what threw gave no credit", 1, x.credits(4));
        Check.index("P14 what threw wove nothing", () -> x.owner(1));
        x.bring(3, 2, 1);
        Check.due("P14 just enough", 1, x.weave(3, 0));
        Check.due("P14 nothing left", 0, x.hand(3, 1) + x.hand(3, 2));
        Check.state("P14 an empty hand", () -> x.weave(0, 0));
        for (int outside : OUTSIDE_INTS) {
            Check.index("P14 person", () -> x.weave(outside, 0));
            Check.index("P14 pattern", () -> x.weave(0, outside));
        }
        Check.index("P14 person 7", () -> x.weave(7, 0));
        Check.index("P14 pattern 1", () -> x.weave(0, 1));
    }

    private static void weaveNumbersAndRoom() {
        BeadParley x = new BeadParley();
        x.pattern(2);
        x.bring(0, 0, 100);
        for (int belt = 0; belt < 20; belt++) {
            Check.due("P14 next number", belt, x.weave(0, 0));
        }
        Check.state("P14 20 belts", () -> x.weave(0, 0));
        Check.due("P14 took nothing", 80, x.hand(0, 0));
        Check.index("P14 person before room", () -> x.weave(7, 0));
        Check.index("P14 pattern before room", () -> x.weave(0, 1));
        x.apart(17);
        x.apart(4);
        Check.due("P14 the lowest free one", 4, x.weave(0, 0));
        Check.due("P14 then the other one", 17, x.weave(0, 0));
        Check.state("P14 20 belts again", () -> x.weave(0, 0));
        Check.due("P18 all that were woven", 22, x.credits(2));
    }

    private static void apart() {
        BeadParley x = new BeadParley();
        Make.pattern(x, 0, "012", "222");
        x.bring(0, 0, 1);
        x.bring(0, 1, 1);
        x.bring(0, 2, 4);
        x.weave(0, 0);
        x.give(0, 5);
        Make.fill(x, 5, 2, 99997);
        Check.state("P15 one too many of some colour", () -> x.apart(0));
        Check.due("P15 what threw left the hand", 0, x.hand(5, 0));
        Check.due("P15 what threw left the belt", 5, x.owner(0));
        x.lay(5, 2, 1);
        Check.due("P15 the beads it had", 6, x.apart(0));
        Check.due("P15 just 100000", 100000, x.hand(5, 2));
        Check.due("P15 another colour", 1, x.hand(5, 1));
        Check.due("P15 not to its first owner", 0, x.hand(0, 2));
        Check.index("P15 it is no more", () -> x.apart(0));
        Check.index("P17 it is no more", () -> x.owner(0));
        for (int outside : new int[] {-1, 1, 19, 20, Integer.MIN_VALUE, Integer.MAX_VALUE}) {
            Check.index("P15 belt", () -> x.apart(outside));
        }
    }

    /** The first colour and the last one count as any other does. */
    private static void eachColourInBelts() {
        for (int colour = 0; colour < 8; colour++) {
            BeadParley x = new BeadParley();
            Make.pattern(x, 0, "" + colour);
            Check.state("P14 none of " + colour, () -> x.weave(2, 0));
            x.bring(2, colour, 1);
            Check.due("P14 one of " + colour, 0, x.weave(2, 0));
            Check.due("P14 woven of " + colour, 0, x.hand(2, colour));
            Check.due("P5 woven of " + colour, 1, x.beads(colour));
            Make.fill(x, 2, colour, 100000);
            Check.state("P15 a full hand of " + colour, () -> x.apart(0));
            x.give(0, 1);
            Check.due("P15 of " + colour, 1, x.apart(0));
            Check.due("P15 bead of " + colour, 1, x.hand(1, colour));
        }
    }

    private static void giveAndOwner() {
        BeadParley x = new BeadParley();
        x.pattern(0);
        x.bring(1, 0, 5);
        x.weave(1, 0);
        x.weave(1, 0);
        Check.due("P16 owner before", 1, x.give(0, 6));
        Check.due("P17 owner then", 6, x.owner(0));
        Check.due("P17 not the other belt's", 1, x.owner(1));
        Check.due("P16 to the same one", 6, x.give(0, 6));
        Check.due("P16 back", 6, x.give(0, 0));
        Check.due("P17 person 0", 0, x.owner(0));
        Check.due("P16 no beads go", 3, x.hand(1, 0));
        for (int outside : new int[] {-1, 2, 20, Integer.MIN_VALUE, Integer.MAX_VALUE}) {
            Check.index("P16 belt", () -> x.give(outside, 0));
            Check.index("P17 belt", () -> x.owner(outside));
        }
        for (int outside : new int[] {-1, 7, Integer.MIN_VALUE, Integer.MAX_VALUE}) {
            Check.index("P16 person", () -> x.give(0, outside));
        }
        Check.due("P16 what threw gave nothing", 0, x.owner(0));
        x.apart(0);
        Check.index("P16 a belt that is no more", () -> x.give(0, 0));
        Check.due("P17 the other one stays", 1, x.owner(1));
    }

    private static void credits() {
        BeadParley x = new BeadParley();
        Make.pattern(x, 3, "10");
        Make.pattern(x, 5, "0", "1");
        Make.pattern(x, 6, "11");
        x.bring(0, 0, 9);
        x.bring(0, 1, 9);
        x.weave(0, 0);
        x.weave(0, 1);
        x.weave(0, 2);
        Check.due("P18 of the origin's author", 2, x.credits(3));
        Check.due("P18 none for a copy", 0, x.credits(5));
        Check.due("P18 its own origin", 1, x.credits(6));
        Check.due("P18 none for the weaver", 0, x.credits(0));
        x.apart(0);
        Check.due("P18 they stay", 2, x.credits(3));
        for (int outside : new int[] {-1, 7, Integer.MIN_VALUE, Integer.MAX_VALUE}) {
            Check.index("P18 person", () -> x.credits(outside));
        }
    }

    private static void wishAndUnwish() {
        BeadParley x = new BeadParley();
        Check.due("P19 first", false, x.wish(0, 0, 7));
        Check.due("P19 in place of it", true, x.wish(0, 7, 0));
        Check.due("P19 somebody else", false, x.wish(6, 0, 7));
        Check.argument("P19 the same colour", () -> x.wish(0, 3, 3));
        Check.argument("P19 the colour 0 for itself", () -> x.wish(0, 0, 0));
        for (int outside : OUTSIDE_INTS) {
            Check.index("P19 person before colours", () -> x.wish(outside, 1, 1));
            Check.index("P19 gives", () -> x.wish(0, outside, 1));
            Check.index("P19 wants", () -> x.wish(0, 1, outside));
            Check.index("P19 both", () -> x.wish(0, outside, outside));
            Check.index("P20 person", () -> x.unwish(outside));
        }
        Check.index("P19 person 7", () -> x.wish(7, 0, 1));
        Check.index("P19 gives 8", () -> x.wish(0, 8, 1));
        Check.index("P19 wants 8", () -> x.wish(0, 1, 8));
        Check.index("P19 both 8", () -> x.wish(0, 8, 8));
        Check.index("P20 person 7", () -> x.unwish(7));
        x.bring(0, 7, 1);
        x.bring(6, 0, 1);
        Check.due("P19 what threw left the wish", 2, x.chain());
        Check.due("P20 there was one", true, x.unwish(0));
        Check.due("P20 no more", false, x.unwish(0));
        Check.due("P20 no chain without it", 0, x.chain());
        Check.due("P20 the other one stays", true, x.unwish(6));
        Check.due("P19 anew", false, x.wish(0, 1, 2));
    }

    private static void chainIs(String what, BeadParley x, int... people) {
        Check.due("P21 " + what, people.length, x.chain());
        Check.due("P22 " + what, people.length, x.chainByOrders());
        for (int place = 0; place < people.length; place++) {
            Check.due("P23 " + what + " at " + place, people[place], x.chainAt(place));
        }
        for (int outside : new int[] {-1, people.length, 7, Integer.MIN_VALUE, Integer.MAX_VALUE}) {
            Check.index("P23 " + what, () -> x.chainAt(outside));
        }
    }

    private static void chain() {
        BeadParley x = new BeadParley();
        chainIs("none", x);
        Make.wish(x, 4, 1, 2);
        chainIs("one wish", x);
        Make.wish(x, 2, 2, 3);
        chainIs("not closed", x);
        Make.wish(x, 6, 3, 1);
        chainIs("three", x, 2, 6, 4);
        Make.wish(x, 0, 5, 6);
        Make.wish(x, 1, 6, 5);
        chainIs("the longest one", x, 2, 6, 4);
        x.unwish(6);
        chainIs("the other one", x, 0, 1);
        BeadParley y = new BeadParley();
        int[] round = {0, 3, 6, 2, 5, 1, 4};
        for (int place = 0; place < 7; place++) {
            Make.wish(y, round[place], place, (place + 1) % 7);
        }
        chainIs("all seven", y, round);
        y.unwish(5);
        chainIs("one missing", y);
    }

    /** Each round of two to seven people that begins with 0; the others are ready, but nobody wants their colour. */
    private static void chainByAnyRound() {
        int[] round = {0, 1, 2, 3, 4, 5, 6};
        for (int turn = 0; turn < 720; turn++) {
            int left = turn;
            for (int place = 1; place < 7; place++) {
                int from = place + left % (7 - place);
                left /= 7 - place;
                int person = round[from];
                round[from] = round[place];
                round[place] = person;
            }
            for (int length = 2; length <= 7; length++) {
                BeadParley x = new BeadParley();
                for (int place = 0; place < 7; place++) {
                    Make.wish(x, round[place], place < length ? place : 7, place < length ? (place + 1) % length : 0);
                }
                Check.due("P22 round " + turn, length, x.chainByOrders());
                Check.due("P21 round " + turn, length, x.chain());
                Check.due("P23 round " + turn, round[length - 1], x.chainAt(length - 1));
            }
        }
    }

    /** Each call finds the chain anew, whatever was asked before. */
    private static void chainAtAlone() {
        BeadParley x = new BeadParley();
        Make.wish(x, 2, 1, 2);
        Make.wish(x, 5, 2, 1);
        Check.due("P23 asked first", 5, x.chainAt(1));
        x.lay(2, 1, 1);
        Check.index("P23 no chain any more", () -> x.chainAt(0));
        x.lay(2, 1, -1);
        Check.due("P24 asked before P21", 2, x.fair());
        Check.index("P23 after the fair", () -> x.chainAt(0));
    }

    private static void chainNeedsBeads() {
        BeadParley x = new BeadParley();
        x.wish(0, 0, 1);
        x.wish(1, 1, 0);
        chainIs("no beads", x);
        x.bring(0, 0, 1);
        chainIs("one has none", x);
        x.bring(1, 0, 3);
        chainIs("beads of another colour", x);
        x.bring(1, 1, 1);
        chainIs("both have", x, 0, 1);
        x.lay(0, 0, 1);
        chainIs("laid on the stall", x);
    }

    private static void chainTies() {
        BeadParley x = new BeadParley();
        Make.wish(x, 5, 0, 1);
        Make.wish(x, 6, 1, 0);
        Make.wish(x, 3, 2, 3);
        Make.wish(x, 4, 3, 2);
        chainIs("the lower first one", x, 3, 4);
        Make.wish(x, 2, 3, 2);
        chainIs("a lower one still", x, 2, 3);
        BeadParley y = new BeadParley();
        for (int person = 0; person < 7; person++) {
            Make.wish(y, person, person < 4 ? 0 : 1, person < 4 ? 1 : 0);
        }
        chainIs("by turns", y, 0, 4, 1, 5, 2, 6);
        y.unwish(0);
        chainIs("by turns without the first", y, 1, 4, 2, 5, 3, 6);
        BeadParley z = new BeadParley();
        Make.wish(z, 0, 0, 1);
        Make.wish(z, 6, 1, 2);
        Make.wish(z, 5, 2, 0);
        Make.wish(z, 1, 1, 0);
        Make.wish(z, 2, 2, 0);
        chainIs("a lower second one makes a shorter chain", z, 0, 6, 2);
    }

    private static void fair() {
        BeadParley x = new BeadParley();
        Check.due("P24 nobody", 0, x.fair());
        x.bring(1, 4, 2);
        x.bring(3, 5, 2);
        x.bring(2, 6, 1);
        x.wish(1, 4, 5);
        x.wish(3, 5, 6);
        x.wish(2, 6, 4);
        String before = told(x);
        x.chain();
        x.chainByOrders();
        x.chainAt(0);
        Check.due("P24 asking barters nothing", before, told(x));
        Check.due("P24 three barter", 3, x.fair());
        Check.due("P24 gave one", 1, x.hand(1, 4));
        Check.due("P24 got the wanted one", 1, x.hand(1, 5));
        Check.due("P24 the next one", 1, x.hand(3, 6));
        Check.due("P24 the last one", 1, x.hand(2, 4));
        Check.due("P24 its last bead", 0, x.hand(2, 6));
        Check.due("P24 beads stay in all", 2, x.beads(4));
        Check.due("P24 no chain then", 0, x.fair());
        x.bring(2, 6, 1);
        Check.due("P24 wishes stay", 3, x.fair());
        BeadParley y = new BeadParley();
        Make.wish(y, 0, 0, 1);
        Make.wish(y, 1, 1, 0);
        Make.wish(y, 5, 2, 3);
        Make.wish(y, 6, 3, 2);
        Check.due("P24 only the best chain", 2, y.fair());
        Check.due("P24 others wait", 1, y.hand(5, 2));
        Check.due("P24 then they barter", 2, y.fair());
        Check.due("P24 they did", 0, y.hand(5, 2));
    }

    private static void fairOverTheLimit() {
        BeadParley x = new BeadParley();
        Make.fill(x, 0, 1, 100000);
        x.bring(0, 0, 9);
        x.bring(1, 1, 9);
        x.wish(0, 0, 1);
        x.wish(1, 1, 0);
        Check.due("P24 however many are in their hands", 2, x.fair());
        Check.due("P24 one over", 100001, x.hand(0, 1));
        x.fair();
        Check.due("P24 two over", 100002, x.hand(0, 1));
        Check.state("P2 over the limit", () -> x.bring(0, 1, 1));
        Check.state("P3 still over the limit then", () -> x.lay(0, 1, 1));
        Check.state("P3 over the limit as it is", () -> x.lay(0, 1, 0));
        Check.due("P3 back at the limit", 2, x.lay(0, 1, 2));
        x.fair();
        x.pattern(0);
        x.weave(0, 0);
        Check.state("P15 over the limit of some colour", () -> x.apart(0));
        x.lay(0, 1, 1);
        Check.due("P15 no more over it", 1, x.apart(0));
    }

    private static void sign() {
        BeadParley x = new BeadParley();
        Make.draw(x, "12", "34");
        Check.due("P25 first", 0, x.sign(1));
        Check.due("P25 the draft stays", 4, x.bead(1, 1, 5));
        x.pattern(0);
        Check.due("P25 the sign stays as it was", 0, x.stands(0, 0));
        Check.argument("P25 worth 0", () -> x.sign(0));
        Check.argument("P25 worth 101", () -> x.sign(101));
        x.draft(4, 3);
        Check.state("P25 4 columns", () -> x.sign(1));
        for (int outside : OUTSIDE_INTS) {
            Check.argument("P25 worth before the draft", () -> x.sign(outside));
        }
        x.draft(3, 4);
        Check.state("P25 4 rows", () -> x.sign(1));
        x.draft(1, 6);
        Check.state("P25 6 rows", () -> x.sign(1));
        x.draft(3, 3);
        for (int number = 1; number < 8; number++) {
            Check.due("P25 next", number, x.sign(100));
        }
        Check.state("P25 8 signs", () -> x.sign(1));
        Check.argument("P25 worth before room", () -> x.sign(0));
        x.draft(8, 6);
        x.pattern(0);
        Check.due("P27 of all eight", 7 * 100 * 24, x.story(1));
        Check.index("P26 no ninth", () -> x.stands(8, 0));
    }

    private static void stands() {
        BeadParley x = new BeadParley();
        Make.pattern(x, 0, "1121", "1111", "2111");
        Make.pattern(x, 0, "11");
        int one = Make.sign(x, 1, "1");
        int square = Make.sign(x, 1, "11", "11");
        int lying = Make.sign(x, 1, "111");
        int standing = Make.sign(x, 1, "1", "1", "1");
        int corner = Make.sign(x, 1, "12", "11");
        int none = Make.sign(x, 1, "3");
        Check.due("P26 one cell", 10, x.stands(one, 0));
        Check.due("P26 overlapping", 3, x.stands(square, 0));
        Check.due("P26 lying", 3, x.stands(lying, 0));
        Check.due("P26 standing", 2, x.stands(standing, 0));
        Check.due("P26 as it is, not turned", 1, x.stands(corner, 0));
        Check.due("P26 none", 0, x.stands(none, 0));
        Check.due("P26 larger than the pattern", 0, x.stands(square, 1));
        Check.due("P26 wider than the pattern", 0, x.stands(lying, 1));
        Check.due("P26 in the other pattern", 2, x.stands(one, 1));
        for (int outside : OUTSIDE_INTS) {
            Check.index("P26 sign", () -> x.stands(outside, 0));
            Check.index("P26 pattern", () -> x.stands(0, outside));
        }
        Check.index("P26 sign 6", () -> x.stands(6, 0));
        Check.index("P26 pattern 2", () -> x.stands(0, 2));
        Make.pattern(x, 0, "333", "333", "333");
        Make.sign(x, 1, "333", "333", "333");
        Check.due("P26 the whole pattern", 1, x.stands(6, 2));
    }

    private static void story() {
        BeadParley x = new BeadParley();
        Make.pattern(x, 0, "0101", "1010");
        Check.due("P27 no signs", 0, x.story(0));
        Make.sign(x, 2, "1");
        Check.due("P27 one sign", 8, x.story(0));
        Make.sign(x, 30, "01");
        Check.due("P27 two signs", 8 + 90, x.story(0));
        Make.sign(x, 30, "01");
        Check.due("P27 alike signs count each", 8 + 180, x.story(0));
        Make.pattern(x, 0, "2");
        Check.due("P27 none stands", 0, x.story(1));
        for (int outside : new int[] {-1, 2, 12, Integer.MIN_VALUE, Integer.MAX_VALUE}) {
            Check.index("P27 pattern", () -> x.story(outside));
        }
    }

    private static void hear() {
        BeadParley x = new BeadParley();
        Make.pattern(x, 0, "0000");
        Make.pattern(x, 0, "0");
        x.bring(0, 0, 100);
        x.weave(0, 0);
        x.weave(0, 1);
        Check.due("P28 no signs", 0L, x.hear(0, 2));
        Make.sign(x, 10, "0");
        Check.due("P28 one", 40L, x.hear(0, 2));
        Check.due("P28 it grows", 80L, x.hear(0, 2));
        Check.due("P28 another belt", 90L, x.hear(1, 2));
        Check.due("P28 somebody else", 10L, x.hear(1, 6));
        Make.sign(x, 1, "00");
        Check.due("P28 a new sign counts from then on", 133L, x.hear(0, 2));
        for (int outside : new int[] {-1, 2, 20, Integer.MIN_VALUE, Integer.MAX_VALUE}) {
            Check.index("P28 belt", () -> x.hear(outside, 0));
        }
        for (int outside : new int[] {-1, 7, Integer.MIN_VALUE, Integer.MAX_VALUE}) {
            Check.index("P28 person", () -> x.hear(0, outside));
        }
        x.apart(0);
        Check.index("P28 a belt that is no more", () -> x.hear(0, 2));
        Check.due("P28 what was heard stays", 143L, x.hear(1, 2));
    }

    private static void rankedIs(String what, BeadParley x, int... people) {
        for (int rank = 0; rank < people.length; rank++) {
            Check.due("P29 " + what + " at " + rank, people[rank], x.ranked(rank));
        }
    }

    private static void ranked() {
        BeadParley x = new BeadParley();
        rankedIs("nobody heard", x, 0, 1, 2, 3, 4, 5, 6);
        x.pattern(0);
        x.sign(5);
        x.bring(0, 0, 1);
        x.weave(0, 0);
        x.hear(0, 6);
        rankedIs("one heard", x, 6, 0, 1, 2, 3, 4, 5);
        x.hear(0, 3);
        rankedIs("of several the lower", x, 3, 6, 0, 1, 2, 4, 5);
        x.hear(0, 6);
        x.hear(0, 5);
        rankedIs("the most first", x, 6, 3, 5, 0, 1, 2, 4);
        x.hear(0, 0);
        x.hear(0, 0);
        x.hear(0, 0);
        rankedIs("more still", x, 0, 6, 3, 5, 1, 2, 4);
        for (int outside : new int[] {-1, 7, Integer.MIN_VALUE, Integer.MAX_VALUE}) {
            Check.index("P29 rank", () -> x.ranked(outside));
        }
    }

    private static void throwingChangesNothing() {
        BeadParley x = new BeadParley();
        Make.pattern(x, 1, "12", "21");
        Make.sign(x, 7, "1");
        Make.draw(x, "1234");
        x.bring(0, 1, 5);
        x.bring(0, 2, 5);
        Make.wish(x, 3, 1, 2);
        Make.wish(x, 4, 2, 1);
        x.lay(0, 1, 1);
        x.weave(0, 0);
        x.hear(0, 5);
        String before = told(x);
        Check.argument("bring", () -> x.bring(0, 1, 1001));
        Check.index("bring", () -> x.bring(0, 8, 1));
        Check.state("lay", () -> x.lay(0, 1, 3));
        Check.state("lay", () -> x.lay(0, 1, -2));
        Check.argument("lay", () -> x.lay(0, 1, 2000));
        Check.argument("draft", () -> x.draft(8, 7));
        Check.index("bead", () -> x.bead(0, 0, 8));
        Check.index("bead", () -> x.bead(4, 0, 7));
        Check.index("pattern", () -> x.pattern(7));
        Check.index("weave", () -> x.weave(0, 1));
        Check.state("weave", () -> x.weave(3, 0));
        Check.index("apart", () -> x.apart(1));
        Check.index("give", () -> x.give(0, 7));
        Check.index("give", () -> x.give(1, 2));
        Check.argument("wish", () -> x.wish(3, 5, 5));
        Check.index("wish", () -> x.wish(3, 5, 8));
        Check.index("unwish", () -> x.unwish(8));
        Check.argument("sign", () -> x.sign(0));
        Check.state("sign", () -> x.sign(1));
        Check.index("hear", () -> x.hear(0, 7));
        Check.index("hear", () -> x.hear(1, 0));
        Check.due("a call that throws changes nothing", before, told(x));
        for (int column = 0; column < 4; column++) {
            Check.due("nor the draft", column + 1, x.bead(column, 0, 0));
        }
        Check.due("what was heard", 28L, x.hear(0, 5));
    }

    private static void manyCalls() {
        BeadParley x = new BeadParley();
        for (int person = 0; person < 7; person++) {
            Make.wish(x, person, person, (person + 1) % 7);
        }
        for (int call = 14; call < 512; call++) {
            Check.due("many calls", 7, x.chainByOrders());
        }
    }
}
