/** The sentences of the terms on belts, and of promises 14 to 18, that name a boundary. */
public final class BeltEdgesTest {
    private static final Twins.Steps NEW = x -> { };
    private static final int[] NO_BELTS = {-1, 0, 1, 19, 20, Integer.MIN_VALUE, Integer.MAX_VALUE};

    private BeltEdgesTest() {
    }

    public static void main(String[] args) {
        weaveRanges();
        weaveWithJustEnough();
        weaveWithTooFew();
        weaveTheLargest();
        weaveAtMost20();
        weaveTheLowestFreeNumber();
        weaveFirstException();
        beltNumbers();
        noBeltAtAll();
        aBeltThatIsNoMore();
        apartOfAll20();
        apartAtMost100000();
        apartIntoTheOwnersHand();
        apartManyBeads();
        givePeople();
        giveToEach();
        creditsPeople();
        creditsOfTheOriginsAuthor();
        creditsOfEachBelt();
        askingChangesNothing();
        Check.report("BeltEdgesTest");
    }

    /** Patterns of one cell, the colour 0; each of the people has beads. */
    private static Twins.Steps readyFor(int patterns) {
        return x -> {
            for (int pattern = 0; pattern < patterns; pattern++) {
                x.pattern(pattern % 7);
            }
            for (int person = 0; person < 7; person++) {
                x.bring(person, 0, 30);
            }
        };
    }

    private static Twins.Steps woven(int belts) {
        return x -> {
            readyFor(1).on(x);
            for (int belt = 0; belt < belts; belt++) {
                x.weave(belt % 7, 0);
            }
        };
    }

    private static void weaveRanges() {
        for (int patterns : new int[] {1, 2, 12}) {
            Twins.Steps steps = readyFor(patterns);
            Twins.range("P14 person", Twins.INDEX, steps, 0, 6, (x, number) -> x.weave(number, 0));
            Twins.range("P14 pattern", Twins.INDEX, steps, 0, patterns - 1, (x, number) -> x.weave(6, number));
        }
        Twins.refused("P14 no pattern at all", Twins.INDEX, readyFor(0), x -> x.weave(0, 0));
        Twins.refused("P14 no pattern of a new object", Twins.INDEX, NEW, x -> x.weave(0, 0));
    }

    private static void weaveWithJustEnough() {
        for (int colour = 0; colour < 8; colour++) {
            for (int cells = 1; cells <= 8; cells++) {
                BeadParley x = new BeadParley();
                Make.pattern(x, 0, ("" + colour).repeat(cells));
                x.bring(6, colour, cells);
                x.bring(6, 7 - colour, 9);
                Check.due("P14 just enough", 0, x.weave(6, 0));
                Check.due("P14 an empty hand", 0, x.hand(6, colour));
                Check.due("P14 the other colour stays", 9, x.hand(6, 7 - colour));
                Check.due("P14 a bead for each cell", cells, x.apart(0));
                Check.due("P14 they come back", cells, x.hand(6, colour));
            }
        }
    }

    private static void weaveWithTooFew() {
        for (int few = 0; few < 8; few++) {
            int colour = few;
            Twins.Steps steps = x -> {
                Make.pattern(x, 2, "01234567", "76543210");
                for (int each = 0; each < 8; each++) {
                    x.bring(3, each, each == colour ? 1 : 2);
                }
                x.bring(4, colour, 9);
                x.bring(5, colour, 9);
                x.lay(5, colour, 9);
            };
            Twins.refused("P14 one too few of " + colour, Twins.STATE, steps, x -> x.weave(3, 0));
            Twins.refused("P14 none of seven colours", Twins.STATE, steps, x -> x.weave(4, 0));
            Twins.refused("P14 an empty hand", Twins.STATE, steps, x -> x.weave(0, 0));
            BeadParley x = Twins.made(steps);
            x.bring(3, colour, 1);
            Check.due("P14 enough then", 0, x.weave(3, 0));
            Check.state("P14 all used up", () -> x.weave(3, 0));
            Check.due("P14 a credit for the woven one alone", 1, x.credits(2));
        }
    }

    private static void weaveTheLargest() {
        for (int[] size : new int[][] {{8, 6}, {8, 1}, {1, 6}, {1, 1}}) {
            int cells = size[0] * size[1];
            Twins.Steps steps = x -> {
                x.draft(size[0], size[1]);
                x.pattern(0);
                Make.fill(x, 1, 0, cells - 1);
            };
            Twins.refused("P14 one too few for " + cells, Twins.STATE, steps, x -> x.weave(1, 0));
            BeadParley x = Twins.made(steps);
            x.bring(1, 0, 1);
            Check.due("P14 just enough for " + cells, 0, x.weave(1, 0));
            Check.due("P14 none left of " + cells, 0, x.hand(1, 0));
            Check.due("P15 all of " + cells, cells, x.apart(0));
        }
    }

    private static void weaveAtMost20() {
        for (int belts = 0; belts < 20; belts++) {
            Check.due("P14 the number of " + belts, belts, Twins.made(woven(belts)).weave(3, 0));
        }
        Twins.refused("P14 20 belts", Twins.STATE, woven(20), x -> x.weave(3, 0));
        Twins.refused("P14 20 belts", Twins.STATE, Make::full, x -> x.weave(0, 11));
        Twins.refused("P14 20 belts and too few beads", Twins.STATE, Make::full, x -> x.weave(1, 0));
        BeadParley x = Twins.made(woven(20));
        for (int time = 0; time < 50; time++) {
            Check.state("P14 20 belts again", () -> x.weave(3, 0));
            Check.due("P15 the beads", 1, x.apart(time % 20));
            Check.due("P14 its number again", time % 20, x.weave(3, 0));
        }
    }

    private static void weaveTheLowestFreeNumber() {
        for (int one = 0; one < 20; one++) {
            for (int other = 0; other < 20; other++) {
                if (one != other) {
                    BeadParley x = Twins.made(woven(20));
                    x.apart(one);
                    x.apart(other);
                    Check.due("P14 the lower one first", Math.min(one, other), x.weave(0, 0));
                    Check.due("P14 then the higher one", Math.max(one, other), x.weave(0, 0));
                    Check.state("P14 then none", () -> x.weave(0, 0));
                }
            }
        }
        BeadParley x = Twins.made(woven(3));
        x.apart(1);
        Check.due("P14 a gap before a new number", 1, x.weave(0, 0));
        Check.due("P14 a new number", 3, x.weave(0, 0));
        x.apart(3);
        Check.due("P14 the last one again", 3, x.weave(0, 0));
    }

    private static void weaveFirstException() {
        for (int wrong : new int[] {-1, 12, Integer.MIN_VALUE, Integer.MAX_VALUE}) {
            Twins.refused("P14 person before room", Twins.INDEX, Make::full, x -> x.weave(wrong, 0));
            Twins.refused("P14 pattern before room", Twins.INDEX, Make::full, x -> x.weave(0, wrong));
            Twins.refused("P14 both before room", Twins.INDEX, Make::full, x -> x.weave(wrong, wrong));
            Twins.refused("P14 pattern before too few", Twins.INDEX, Make::some, x -> x.weave(2, wrong));
        }
        Twins.refused("P14 person 7 before room", Twins.INDEX, Make::full, x -> x.weave(7, 0));
        Twins.refused("P14 person 7 before too few", Twins.INDEX, Make::some, x -> x.weave(7, 0));
    }

    private static void beltNumbers() {
        for (int belts : new int[] {1, 2, 19, 20}) {
            Twins.Steps steps = woven(belts);
            int last = belts - 1;
            Twins.range("P15 belt", Twins.INDEX, steps, 0, last, (x, number) -> x.apart(number));
            Twins.range("P16 belt", Twins.INDEX, steps, 0, last, (x, number) -> x.give(number, 6));
            Twins.range("P17 belt", Twins.INDEX, steps, 0, last, (x, number) -> x.owner(number));
            Twins.range("P28 belt", Twins.INDEX, steps, 0, last, (x, number) -> x.hear(number, 6));
        }
    }

    private static void noBelt(String what, Twins.Steps steps, int belt) {
        Twins.refused("P15 " + what, Twins.INDEX, steps, x -> x.apart(belt));
        Twins.refused("P16 " + what, Twins.INDEX, steps, x -> x.give(belt, 0));
        Twins.refused("P16 person too, " + what, Twins.INDEX, steps, x -> x.give(belt, 7));
        Twins.refused("P17 " + what, Twins.INDEX, steps, x -> x.owner(belt));
        Twins.refused("P28 " + what, Twins.INDEX, steps, x -> x.hear(belt, 0));
    }

    private static void noBeltAtAll() {
        for (int belt : NO_BELTS) {
            noBelt("of a new object", NEW, belt);
            noBelt("with patterns alone", readyFor(12), belt);
        }
    }

    private static void aBeltThatIsNoMore() {
        for (int belt = 0; belt < 20; belt++) {
            int number = belt;
            Twins.Steps steps = x -> {
                woven(20).on(x);
                x.apart(number);
            };
            noBelt("no more", steps, number);
            BeadParley x = Twins.made(steps);
            for (int other = 0; other < 20; other++) {
                if (other != number) {
                    Check.due("P17 the others are", other % 7, x.owner(other));
                }
            }
            x.weave(6, 0);
            Check.due("P17 the new one with that number", 6, x.owner(number));
        }
    }

    private static void apartOfAll20() {
        for (boolean lastFirst : new boolean[] {false, true}) {
            BeadParley x = Twins.made(woven(20));
            for (int belt = 0; belt < 20; belt++) {
                Check.due("P15 how many it had", 1, x.apart(lastFirst ? 19 - belt : belt));
            }
            for (int person = 0; person < 7; person++) {
                Check.due("P15 all in the hands", 30, x.hand(person, 0));
            }
            for (int belt : NO_BELTS) {
                Check.index("P15 no belt any more", () -> x.apart(belt));
            }
            Check.due("P14 from 0 on again", 0, x.weave(0, 0));
        }
    }

    private static void apartAtMost100000() {
        for (int each = 0; each < 8; each++) {
            int colour = each;
            Twins.Steps steps = x -> {
                Make.pattern(x, 0, "01234567", "01234567");
                for (int number = 0; number < 8; number++) {
                    x.bring(0, number, 2);
                }
                x.weave(0, 0);
                Make.fill(x, 0, colour, 99998);
            };
            BeadParley x = Twins.made(steps);
            Check.due("P15 up to 100000", 16, x.apart(0));
            Check.due("P15 a full hand", 100000, x.hand(0, colour));
            for (int more : new int[] {1, 2}) {
                Twins.Steps over = y -> {
                    steps.on(y);
                    y.bring(0, colour, more);
                };
                Twins.refused("P15 over 100000 of " + colour, Twins.STATE, over, y -> y.apart(0));
                BeadParley y = Twins.made(over);
                y.lay(0, colour, more);
                Check.due("P15 room again", 16, y.apart(0));
            }
        }
    }

    /** The limit is that of the owner's hand, not of the hand that the beads came from. */
    private static void apartIntoTheOwnersHand() {
        Twins.Steps steps = x -> {
            x.pattern(0);
            x.bring(0, 0, 1);
            x.weave(0, 0);
            Make.fill(x, 0, 0, 100000);
            x.give(0, 6);
        };
        BeadParley x = Twins.made(steps);
        Check.due("P15 an owner with room", 1, x.apart(0));
        Check.due("P15 the owner's hand", 1, x.hand(6, 0));
        Check.due("P15 not the first owner's", 100000, x.hand(0, 0));
        Twins.Steps back = y -> {
            steps.on(y);
            y.give(0, 0);
        };
        Twins.refused("P15 an owner with a full hand", Twins.STATE, back, y -> y.apart(0));
        Twins.Steps otherColour = y -> {
            y.pattern(0);
            y.bring(0, 0, 1);
            y.weave(0, 0);
            Make.fill(y, 0, 1, 100000);
        };
        Check.due("P15 a full hand of another colour", 1, Twins.made(otherColour).apart(0));
    }

    private static void apartManyBeads() {
        for (int size = 0; size < 48; size++) {
            int columns = 1 + size % 8;
            int rows = 1 + size / 8;
            BeadParley x = new BeadParley();
            x.draft(columns, rows);
            x.bead(columns - 1, rows - 1, 7);
            x.pattern(0);
            x.bring(0, 0, 50);
            x.bring(0, 7, 1);
            x.weave(0, 0);
            Check.due("P15 " + columns + " by " + rows, columns * rows, x.apart(0));
            Check.due("P15 all of the colour 0 are back", 50, x.hand(0, 0));
            Check.due("P15 the last one is back", 1, x.hand(0, 7));
        }
    }

    private static void givePeople() {
        Twins.range("P16 person", Twins.INDEX, woven(1), 0, 6, (x, number) -> x.give(0, number));
        Twins.range("P16 person", Twins.INDEX, woven(20), 0, 6, (x, number) -> x.give(19, number));
        Twins.refused("P16 belt and person", Twins.INDEX, woven(20), x -> x.give(20, 7));
    }

    private static void giveToEach() {
        BeadParley x = Twins.made(woven(20));
        int before = 19 % 7;
        for (int pair = 0; pair < 49; pair++) {
            for (int person : new int[] {pair / 7, pair % 7}) {
                Check.due("P16 the owner before", before, x.give(19, person));
                Check.due("P17 the owner then", person, x.owner(19));
                before = person;
            }
        }
        Check.due("P17 the first belt's owner stays", 0, x.owner(0));
        Check.due("P16 no beads go along", 30 - 3, x.hand(0, 0));
    }

    private static void creditsPeople() {
        for (Twins.Steps steps : new Twins.Steps[] {NEW, Make::some, Make::full}) {
            Twins.range("P18 person", Twins.INDEX, steps, 0, 6, (x, number) -> x.credits(number));
        }
        for (int person = 0; person < 7; person++) {
            Check.due("P18 none at first", 0, new BeadParley().credits(person));
            Check.due("P18 none for a pattern alone", 0, Twins.made(readyFor(12)).credits(person));
        }
    }

    private static void creditsOfTheOriginsAuthor() {
        for (int author = 0; author < 7; author++) {
            BeadParley x = new BeadParley();
            Make.pattern(x, (author + 2) % 7, "3");
            Make.pattern(x, author, "12");
            Make.pattern(x, (author + 1) % 7, "21");
            Make.pattern(x, (author + 3) % 7, "2", "1");
            x.bring(0, 1, 3);
            x.bring(0, 2, 3);
            for (int pattern = 1; pattern < 4; pattern++) {
                x.weave(0, pattern);
                for (int person = 0; person < 7; person++) {
                    Check.due("P18 the origin's author", person == author ? pattern : 0, x.credits(person));
                }
            }
        }
    }

    private static void creditsOfEachBelt() {
        BeadParley x = Twins.made(woven(20));
        Check.due("P18 twenty", 20, x.credits(0));
        Check.state("P14 20 belts", () -> x.weave(3, 0));
        Check.due("P18 none for one that threw", 20, x.credits(0));
        x.bring(3, 0, 50);
        for (int time = 1; time <= 50; time++) {
            x.apart(0);
            Check.due("P18 none is lost", 19 + time, x.credits(0));
            x.weave(3, 0);
            Check.due("P18 one more", 20 + time, x.credits(0));
            x.give(0, time % 7);
        }
        for (int person = 1; person < 7; person++) {
            Check.due("P18 none for owners", 0, x.credits(person));
        }
    }

    private static void askingChangesNothing() {
        for (Twins.Steps steps : new Twins.Steps[] {Make::some, Make::full}) {
            Twins.changesNothing("P17", steps, x -> x.owner(1));
            Twins.changesNothing("P18", steps, x -> x.credits(1));
        }
    }
}
