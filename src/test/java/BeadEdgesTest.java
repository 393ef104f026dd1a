/** The sentences of the terms on people and calls, and of promises 1 to 6, that name a boundary. */
public final class BeadEdgesTest {
    private static final Twins.Steps NEW = x -> { };
    private static final Twins.Steps[] STATES = {NEW, Make::some, Make::full};

    private BeadEdgesTest() {
    }

    public static void main(String[] args) {
        aNewObjectHasNone();
        the512thCall();
        bringRanges();
        bringEachNumberOfBeads();
        bringAtMost100000();
        bringFirstException();
        layRanges();
        layEachNumberOfBeads();
        layFewerInTheHand();
        layFewerOnTheStall();
        layAtMost100000();
        layFirstException();
        handRanges();
        handOfAll();
        beadsRanges();
        beadsInAllPlaces();
        broughtRanges();
        broughtSoFar();
        beadsAddUp();
        Check.report("BeadEdgesTest");
    }

    private static void aNewObjectHasNone() {
        BeadParley x = new BeadParley();
        for (int person = 0; person < 7; person++) {
            for (int colour = 0; colour < 8; colour++) {
                Check.due("P1 hand", 0, x.hand(person, colour));
            }
            Check.due("P1 credits", 0, x.credits(person));
            Check.due("P1 ranked", person, x.ranked(person));
        }
        for (int colour = 0; colour < 8; colour++) {
            int number = colour;
            Check.due("P1 stall", 0, x.lay(0, colour, 0));
            Check.due("P1 beads", 0, x.beads(colour));
            Check.due("P1 brought", 0, x.brought(colour));
            Twins.refused("P1 none in the hand", Twins.STATE, NEW, y -> y.lay(0, number, 1));
            Twins.refused("P1 none on the stall", Twins.STATE, NEW, y -> y.lay(0, number, -1));
        }
        Check.due("P1 patterns", 0, x.patterns());
        Check.due("P1 chain", 0, x.chain());
        Check.due("P1 chain by orders", 0, x.chainByOrders());
        Check.due("P1 fair", 0, x.fair());
        for (int number = 0; number < 20; number++) {
            int belt = number;
            Twins.refused("P1 no belt " + belt, Twins.INDEX, NEW, y -> y.owner(belt));
        }
        for (int number = 0; number < 12; number++) {
            int pattern = number;
            Twins.refused("P1 no pattern " + pattern, Twins.INDEX, NEW, y -> y.story(pattern));
        }
        for (int number = 0; number < 8; number++) {
            int sign = number;
            Twins.refused("P1 no sign " + sign, Twins.INDEX, y -> y.pattern(0), y -> y.stands(sign, 0));
        }
        Twins.refused("P1 no place in a chain", Twins.INDEX, NEW, y -> y.chainAt(0));
    }

    /** An object is used for at most 512 calls after it has been made. */
    private static void the512thCall() {
        BeadParley x = new BeadParley();
        for (int call = 1; call < 512; call++) {
            x.bring(call % 7, 3, 1000);
        }
        Check.due("512th call brought", 511000, x.brought(3));
        BeadParley y = new BeadParley();
        Make.ring(y, 7);
        for (int call = 15; call < 512; call++) {
            y.chainByOrders();
        }
        Check.due("512th call chain by orders", 7, y.chainByOrders());
        BeadParley z = new BeadParley();
        z.draft(8, 6);
        z.pattern(0);
        z.bring(0, 0, 48);
        z.weave(0, 0);
        z.draft(1, 1);
        for (int sign = 0; sign < 8; sign++) {
            z.sign(100);
        }
        long heard = 0;
        for (int call = 14; call <= 512; call++) {
            heard += 38400;
            Check.due("hears the largest story", heard, z.hear(0, 6));
        }
    }

    private static void bringRanges() {
        for (Twins.Steps steps : STATES) {
            Twins.range("P2 person", Twins.INDEX, steps, 0, 6, (x, number) -> x.bring(number, 3, 1));
            Twins.range("P2 colour", Twins.INDEX, steps, 0, 7, (x, number) -> x.bring(1, number, 1));
            Twins.range("P2 beads", Twins.ARGUMENT, steps, 1, 1000, (x, number) -> x.bring(5, 6, number));
            Twins.refused("P2 beads -1", Twins.ARGUMENT, steps, x -> x.bring(5, 6, -1));
            Twins.refused("P2 beads -1000", Twins.ARGUMENT, steps, x -> x.bring(5, 6, -1000));
        }
    }

    private static void bringEachNumberOfBeads() {
        BeadParley x = new BeadParley();
        int sum = 0;
        for (int beads = 1; beads <= 1000; beads++) {
            if (beads % 100 == 0) {
                x = new BeadParley();
                sum = 0;
            }
            sum += beads;
            Check.due("P2 how many then", sum, x.bring(0, 7, beads));
            Check.due("P2 how many in the hand", sum, x.hand(0, 7));
            Check.due("P2 how many brought", sum, x.brought(7));
        }
    }

    /** A hand with 100000, or with fewer by some number. */
    private static Twins.Steps handWith(int person, int colour, int beads) {
        return x -> Make.fill(x, person, colour, beads);
    }

    private static void bringAtMost100000() {
        for (int room : new int[] {1, 2, 999, 1000}) {
            Twins.Steps steps = handWith(2, 4, 100000 - room);
            Check.due("P2 up to 100000", 100000, Twins.made(steps).bring(2, 4, room));
            if (room < 1000) {
                Twins.refused("P2 100001", Twins.STATE, steps, x -> x.bring(2, 4, room + 1));
                Twins.refused("P2 1000 more", Twins.STATE, steps, x -> x.bring(2, 4, 1000));
            }
        }
        Twins.Steps full = handWith(6, 7, 100000);
        Twins.refused("P2 one more than 100000", Twins.STATE, full, x -> x.bring(6, 7, 1));
        Check.due("P2 another colour of a full hand", 1000, Twins.made(full).bring(6, 6, 1000));
        Check.due("P2 the colour in another hand", 1000, Twins.made(full).bring(5, 7, 1000));
        BeadParley x = Twins.made(full);
        x.lay(6, 7, 1);
        Check.due("P2 room again", 100000, x.bring(6, 7, 1));
        Twins.refused("P2 a full hand of the first ones", Twins.STATE, handWith(0, 0, 100000), y -> y.bring(0, 0, 1));
    }

    private static void bringFirstException() {
        Twins.Steps full = handWith(2, 4, 100000);
        for (int wrong : new int[] {0, -1, 1001}) {
            Twins.refused("P2 person before beads", Twins.INDEX, full, x -> x.bring(7, 4, wrong));
            Twins.refused("P2 colour before beads", Twins.INDEX, full, x -> x.bring(2, 8, wrong));
            Twins.refused("P2 both before beads", Twins.INDEX, full, x -> x.bring(-1, -1, wrong));
        }
        Twins.refused("P2 beads before the full hand", Twins.ARGUMENT, full, x -> x.bring(2, 4, 1001));
        Twins.refused("P2 beads before the full hand", Twins.ARGUMENT, full, x -> x.bring(2, 4, 0));
        Twins.refused("P2 beads before the full hand", Twins.ARGUMENT, full, x -> x.bring(2, 4, Integer.MAX_VALUE));
    }

    private static void layRanges() {
        Twins.Steps rich = x -> {
            for (int number = 0; number < 8; number++) {
                x.bring(Math.min(number, 6), number, 1000);
                x.bring(1, number, 1000);
                x.lay(1, number, 1000);
                x.bring(1, number, 1000);
                x.bring(number % 7, 3, 1);
            }
        };
        Twins.range("P3 person", Twins.INDEX, rich, 0, 6, (x, number) -> x.lay(number, 3, 1));
        Twins.range("P3 person takes", Twins.INDEX, rich, 0, 6, (x, number) -> x.lay(number, 3, -1));
        Twins.range("P3 colour", Twins.INDEX, rich, 0, 7, (x, number) -> x.lay(1, number, 1));
        Twins.range("P3 colour takes", Twins.INDEX, rich, 0, 7, (x, number) -> x.lay(1, number, -1));
        Twins.range("P3 beads", Twins.ARGUMENT, rich, -1000, 1000, (x, number) -> x.lay(1, 3, number));
        for (Twins.Steps steps : STATES) {
            Twins.range("P3 person", Twins.INDEX, steps, 0, 6, (x, number) -> x.lay(number, 5, 0));
            Twins.range("P3 colour", Twins.INDEX, steps, 0, 7, (x, number) -> x.lay(1, number, 0));
            Twins.refused("P3 1001 beads", Twins.ARGUMENT, steps, x -> x.lay(1, 3, 1001));
            Twins.refused("P3 -1001 beads", Twins.ARGUMENT, steps, x -> x.lay(1, 3, -1001));
        }
    }

    private static void layEachNumberOfBeads() {
        for (int beads = -1000; beads <= 1000; beads++) {
            BeadParley x = new BeadParley();
            x.bring(0, 0, 1000);
            x.lay(0, 0, 1000);
            x.bring(3, 0, 1000);
            Check.due("P3 on the stall with " + beads, 1000 + beads, x.lay(3, 0, beads));
            Check.due("P3 in the hand with " + beads, 1000 - beads, x.hand(3, 0));
            Check.due("P3 in all with " + beads, 2000, x.beads(0));
            Check.due("P3 brought with " + beads, 2000, x.brought(0));
        }
    }

    private static void layFewerInTheHand() {
        for (int inHand : new int[] {0, 1, 2, 999}) {
            Twins.Steps steps = x -> {
                Make.fill(x, 4, 2, inHand);
                x.bring(5, 2, 1000);
                x.bring(4, 1, 1000);
            };
            Twins.refused("P3 one more than in the hand", Twins.STATE, steps, x -> x.lay(4, 2, inHand + 1));
            Twins.refused("P3 1000 of fewer", Twins.STATE, steps, x -> x.lay(4, 2, 1000));
            BeadParley x = Twins.made(steps);
            Check.due("P3 all that are in the hand", inHand, x.lay(4, 2, inHand));
            Check.due("P3 an empty hand", 0, x.hand(4, 2));
            Check.due("P3 none of none", inHand, x.lay(4, 2, 0));
        }
    }

    private static void layFewerOnTheStall() {
        for (int onStall : new int[] {0, 1, 2, 999}) {
            Twins.Steps steps = x -> {
                Make.fill(x, 4, 2, onStall);
                x.lay(4, 2, onStall);
                x.bring(4, 1, 1000);
                x.lay(4, 1, 1000);
                x.bring(4, 2, 1000);
                x.bring(6, 2, 1000);
            };
            Twins.refused("P3 one more than on the stall", Twins.STATE, steps, x -> x.lay(6, 2, -onStall - 1));
            Twins.refused("P3 1000 of fewer", Twins.STATE, steps, x -> x.lay(6, 2, -1000));
            BeadParley x = Twins.made(steps);
            Check.due("P3 all that are on the stall", 0, x.lay(6, 2, -onStall));
            Check.due("P3 they are in the hand", 1000 + onStall, x.hand(6, 2));
            Check.due("P3 none from an empty stall", 0, x.lay(6, 2, 0));
        }
    }

    private static void layAtMost100000() {
        for (int room : new int[] {0, 1, 2, 999, 1000}) {
            Twins.Steps steps = x -> {
                x.bring(0, 5, 1000);
                x.lay(0, 5, 1000);
                x.bring(0, 5, 500);
                x.lay(0, 5, 500);
                Make.fill(x, 2, 5, 100000 - room);
            };
            BeadParley x = Twins.made(steps);
            Check.due("P3 up to 100000", 1500 - room, x.lay(2, 5, -room));
            Check.due("P3 a full hand", 100000, x.hand(2, 5));
            Check.due("P3 lays none of a full hand", 1500 - room, x.lay(2, 5, 0));
            Check.due("P3 lays of a full hand", 2500 - room, x.lay(2, 5, 1000));
            if (room < 1000) {
                Twins.refused("P3 100001", Twins.STATE, steps, y -> y.lay(2, 5, -room - 1));
                Twins.refused("P3 1000 more", Twins.STATE, steps, y -> y.lay(2, 5, -1000));
            }
        }
        Twins.Steps manyOnTheStall = x -> {
            for (int call = 0; call < 101; call++) {
                x.bring(0, 0, 1000);
                x.lay(0, 0, 1000);
            }
        };
        Check.due("P3 the stall may have more", 101500, brings500AndLaysThem(Twins.made(manyOnTheStall)));
    }

    private static int brings500AndLaysThem(BeadParley x) {
        x.bring(3, 0, 500);
        return x.lay(3, 0, 500);
    }

    private static void layFirstException() {
        for (int wrong : new int[] {-1001, 1001, Integer.MIN_VALUE, Integer.MAX_VALUE}) {
            Twins.refused("P3 person before beads", Twins.INDEX, NEW, x -> x.lay(7, 0, wrong));
            Twins.refused("P3 colour before beads", Twins.INDEX, NEW, x -> x.lay(0, 8, wrong));
            Twins.refused("P3 beads before too few", Twins.ARGUMENT, NEW, x -> x.lay(0, 0, wrong));
            Twins.refused("P3 beads before the full hand", Twins.ARGUMENT, Make::full, x -> x.lay(6, 7, wrong));
        }
        Twins.refused("P3 person before too few", Twins.INDEX, NEW, x -> x.lay(-1, 0, 1));
        Twins.refused("P3 colour before too few", Twins.INDEX, NEW, x -> x.lay(0, -1, -1));
    }

    private static void handRanges() {
        for (Twins.Steps steps : STATES) {
            Twins.range("P4 person", Twins.INDEX, steps, 0, 6, (x, number) -> x.hand(number, 0));
            Twins.range("P4 colour", Twins.INDEX, steps, 0, 7, (x, number) -> x.hand(0, number));
        }
        Twins.changesNothing("P4", Make::full, x -> x.hand(6, 7));
    }

    private static void handOfAll() {
        BeadParley x = new BeadParley();
        for (int cell = 0; cell < 56; cell++) {
            x.bring(cell / 8, cell % 8, 1 + cell);
        }
        for (int cell = 0; cell < 56; cell++) {
            Check.due("P4 each hand and colour", 1 + cell, x.hand(cell / 8, cell % 8));
        }
    }

    private static void beadsRanges() {
        for (Twins.Steps steps : STATES) {
            Twins.range("P5 colour", Twins.INDEX, steps, 0, 7, (x, number) -> x.beads(number));
        }
        Twins.changesNothing("P5", Make::full, x -> x.beads(7));
    }

    /** In the first hand and the last one, on the stall, in the first belt and the last one. */
    private static void beadsInAllPlaces() {
        for (int colour = 0; colour < 8; colour++) {
            BeadParley x = new BeadParley();
            Make.pattern(x, 0, "" + colour + (7 - colour));
            x.bring(0, colour, 30);
            x.bring(0, 7 - colour, 30);
            for (int belt = 0; belt < 20; belt++) {
                x.weave(0, 0);
                Check.due("P5 with " + belt + " belts", 30, x.beads(colour));
            }
            x.bring(6, colour, 3);
            Check.due("P5 in the last hand", 33, x.beads(colour));
            x.lay(6, colour, 2);
            Check.due("P5 on the stall", 33, x.beads(colour));
            x.give(19, 6);
            Check.due("P5 given", 33, x.beads(colour));
            x.apart(19);
            x.apart(0);
            Check.due("P5 taken apart", 33, x.beads(colour));
        }
    }

    private static void broughtRanges() {
        for (Twins.Steps steps : STATES) {
            Twins.range("P6 colour", Twins.INDEX, steps, 0, 7, (x, number) -> x.brought(number));
        }
        Twins.changesNothing("P6", Make::full, x -> x.brought(7));
    }

    private static void broughtSoFar() {
        BeadParley x = new BeadParley();
        for (int person = 0; person < 4; person++) {
            Make.fill(x, person, 7, 100000);
        }
        Check.due("P6 more than a hand holds", 400000, x.brought(7));
        Check.due("P6 beads", 400000, x.beads(7));
        Check.state("P6 one too many", () -> x.bring(0, 7, 1));
        Check.due("P6 what threw brought none", 400000, x.brought(7));
        Check.due("P6 another colour", 0, x.brought(6));
        Check.due("P6 another colour", 0, x.brought(0));
    }

    /** Beads come by bring alone and go nowhere. */
    private static void beadsAddUp() {
        for (Twins.Steps steps : STATES) {
            BeadParley x = Twins.made(steps);
            addUp("made", x);
            x.fair();
            addUp("a fair", x);
            for (int belt = 0; belt < 20; belt++) {
                int number = belt;
                Check.answerOf(() -> x.apart(number));
            }
            addUp("belts apart", x);
            Check.answerOf(() -> x.lay(3, 1, 1));
            Check.answerOf(() -> x.weave(0, 0));
            Check.answerOf(() -> x.give(0, 5));
            addUp("woven", x);
        }
    }

    private static void addUp(String what, BeadParley x) {
        for (int colour = 0; colour < 8; colour++) {
            Check.due(what + ": all that were brought", x.brought(colour), x.beads(colour));
        }
    }
}
