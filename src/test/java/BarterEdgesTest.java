/** The sentences of the terms on barter, and of promises 19 to 24, that name a boundary. */
public final class BarterEdgesTest {
    private static final Twins.Steps NEW = x -> { };
    private static final Twins.Steps[] STATES = {NEW, Make::some, Make::full};

    private BarterEdgesTest() {
    }

    public static void main(String[] args) {
        wishRanges();
        wishSameColours();
        wishEachPair();
        wishInPlaceOfTheOneBefore();
        unwishRanges();
        unwishOfEach();
        noChainAtAll();
        chainOfTwoToSeven();
        chainOfOneIsNone();
        chainGoesRound();
        chainByColoursOfTheNext();
        chainNeedsABeadOfEach();
        chainTheFirstHasTheLowestNumber();
        chainTheLongest();
        chainTheLowerAtTheFirstDifference();
        chainOfManyAlike();
        fairOfNobody();
        fairGoesRound();
        fairOfTheBestAlone();
        fairUntilTheLastBead();
        fairOverAFullHand();
        fairKeepsWishes();
        askingChangesNothing();
        Check.report("BarterEdgesTest");
    }

    private static void chainIs(String what, BeadParley x, int... people) {
        Check.due("P21 " + what, people.length, x.chain());
        Check.due("P22 " + what, people.length, x.chainByOrders());
        for (int place = 0; place < people.length; place++) {
            Check.due("P23 " + what + " at " + place, people[place], x.chainAt(place));
        }
        for (int outside : new int[] {-1, people.length, 7, Integer.MIN_VALUE, Integer.MAX_VALUE}) {
            Check.index("P23 " + what + " at " + outside, () -> x.chainAt(outside));
        }
    }

    private static void wishRanges() {
        for (Twins.Steps steps : STATES) {
            Twins.range("P19 person", Twins.INDEX, steps, 0, 6, (x, number) -> x.wish(number, 3, 4));
            Twins.range("P19 gives", Twins.INDEX, steps, 0, 7, (x, number) -> x.wish(3, number, 4));
            Twins.range("P19 wants", Twins.INDEX, steps, 0, 7, (x, number) -> x.wish(3, 4, number));
        }
    }

    private static void wishSameColours() {
        for (int each = 0; each < 8; each++) {
            int colour = each;
            for (Twins.Steps steps : STATES) {
                Twins.refused("P19 " + colour + " for itself", Twins.ARGUMENT, steps, x -> x.wish(5, colour, colour));
            }
            Twins.refused("P19 person before colours", Twins.INDEX, NEW, x -> x.wish(7, colour, colour));
            Twins.refused("P19 person before colours", Twins.INDEX, NEW, x -> x.wish(-1, colour, colour));
        }
        for (int none : new int[] {-1, 8, Integer.MIN_VALUE, Integer.MAX_VALUE}) {
            for (Twins.Steps steps : STATES) {
                Twins.refused("P19 no such colour for itself", Twins.INDEX, steps, x -> x.wish(5, none, none));
            }
        }
    }

    private static void wishEachPair() {
        for (int pair = 0; pair < 64; pair++) {
            int gives = pair / 8;
            int wants = pair % 8;
            if (gives != wants) {
                BeadParley x = new BeadParley();
                Check.due("P19 none before", false, x.wish(0, gives, wants));
                Check.due("P19 none before", false, x.wish(6, wants, gives));
                chainIs("no beads", x);
                x.bring(0, gives, 1);
                x.bring(6, wants, 1);
                chainIs("the two", x, 0, 6);
                Check.due("P24 the two", 2, x.fair());
                Check.due("P24 gave", 0, x.hand(0, gives));
                Check.due("P24 got", 1, x.hand(0, wants));
                Check.due("P24 gave", 0, x.hand(6, wants));
                Check.due("P24 got", 1, x.hand(6, gives));
                Check.due("P20 there is one", true, x.unwish(0));
            }
        }
    }

    private static void wishInPlaceOfTheOneBefore() {
        for (int person = 0; person < 7; person++) {
            int other = (person + 1) % 7;
            BeadParley x = new BeadParley();
            Check.due("P19 none before", false, x.wish(person, 0, 7));
            Check.due("P19 one before", true, x.wish(person, 7, 0));
            Check.due("P19 the same again", true, x.wish(person, 7, 0));
            Make.wish(x, other, 0, 7);
            x.bring(person, 7, 1);
            chainIs("the last wish", x, Math.min(person, other), Math.max(person, other));
            Check.due("P20 one alone", true, x.unwish(person));
            Check.due("P20 none any more", false, x.unwish(person));
            Check.due("P19 none before, again", false, x.wish(person, 1, 2));
        }
    }

    private static void unwishRanges() {
        for (Twins.Steps steps : STATES) {
            Twins.range("P20 person", Twins.INDEX, steps, 0, 6, (x, number) -> x.unwish(number));
        }
    }

    private static void unwishOfEach() {
        for (int person = 0; person < 7; person++) {
            BeadParley x = new BeadParley();
            Make.ring(x, 7);
            Check.due("P20 there was one", true, x.unwish(person));
            chainIs("not closed without " + person, x);
            Check.due("P20 no more", false, x.unwish(person));
            for (int other = 0; other < 7; other++) {
                Check.due("P20 the others have theirs", other != person, x.unwish(other));
            }
        }
        for (int person = 0; person < 7; person++) {
            Check.due("P20 none at first", false, new BeadParley().unwish(person));
        }
    }

    private static void noChainAtAll() {
        chainIs("of a new object", new BeadParley());
        for (int outside : new int[] {-1, 0, 1, 6, 7, Integer.MIN_VALUE, Integer.MAX_VALUE}) {
            Twins.refused("P23 no chain", Twins.INDEX, NEW, x -> x.chainAt(outside));
        }
        BeadParley x = new BeadParley();
        for (int person = 0; person < 7; person++) {
            Make.wish(x, person, 0, 1);
        }
        chainIs("all want the same", x);
        BeadParley y = new BeadParley();
        for (int person = 0; person < 7; person++) {
            Make.wish(y, person, person, person + 1);
        }
        chainIs("the last one's wish is open", y);
    }

    private static void chainOfTwoToSeven() {
        for (int people = 2; people <= 7; people++) {
            int count = people;
            Twins.Steps steps = x -> Make.ring(x, count);
            int[] ring = new int[people];
            for (int person = 0; person < people; person++) {
                ring[person] = person;
            }
            chainIs("a ring of " + people, Twins.made(steps), ring);
            Twins.range("P23 place", Twins.INDEX, steps, 0, people - 1, (x, number) -> x.chainAt(number));
            Check.due("P24 all barter", people, Twins.made(steps).fair());
        }
    }

    private static void chainOfOneIsNone() {
        for (int person = 0; person < 7; person++) {
            BeadParley x = new BeadParley();
            Make.wish(x, person, 0, 1);
            x.bring(person, 1, 5);
            chainIs("one alone", x);
            Check.due("P24 one alone", 0, x.fair());
        }
    }

    /** The wrap-around: the last one wants what the first one gives. */
    private static void chainGoesRound() {
        for (int people = 2; people <= 7; people++) {
            BeadParley x = new BeadParley();
            Make.ring(x, people);
            x.wish(people - 1, people - 1, 7);
            chainIs("the last one wants something else, " + people, x);
            x.wish(people - 1, people - 1, 0);
            Check.due("P21 closed again, " + people, people, x.chain());
            x.wish(0, 7, 1);
            x.bring(0, 7, 1);
            chainIs("the first one gives something else, " + people, x);
        }
    }

    /** Each wants what the next one gives, not what the one before gives. */
    private static void chainByColoursOfTheNext() {
        BeadParley x = new BeadParley();
        Make.wish(x, 0, 0, 2);
        Make.wish(x, 1, 1, 0);
        Make.wish(x, 2, 2, 1);
        chainIs("the next one gives it", x, 0, 2, 1);
        x.fair();
        Check.due("P24 from the next one", 1, x.hand(0, 2));
        Check.due("P24 from the next one", 1, x.hand(2, 1));
        Check.due("P24 the last one from the first one", 1, x.hand(1, 0));
    }

    private static void chainNeedsABeadOfEach() {
        for (int people = 2; people <= 7; people++) {
            for (int poor = 0; poor < people; poor++) {
                BeadParley x = new BeadParley();
                Make.ring(x, people);
                x.lay(poor, poor, 1);
                x.bring(poor, 7, 9);
                x.bring(poor, (poor + 1) % people, 9);
                chainIs("no bead of the colour to give", x);
                Check.due("P24 no bead", 0, x.fair());
                x.lay(poor, poor, -1);
                Check.due("P21 one bead is enough", people, x.chain());
                Check.due("P22 one bead is enough", people, x.chainByOrders());
            }
        }
        BeadParley x = new BeadParley();
        Make.pattern(x, 0, "0");
        Make.ring(x, 2);
        x.weave(0, 0);
        chainIs("the bead is in a belt", x);
        x.apart(0);
        chainIs("the bead is back", x, 0, 1);
    }

    private static void chainTheFirstHasTheLowestNumber() {
        for (int shift = 0; shift < 7; shift++) {
            BeadParley x = new BeadParley();
            int[] due = new int[7];
            for (int place = 0; place < 7; place++) {
                int person = (3 * place + shift) % 7;
                Make.wish(x, person, place, (place + 1) % 7);
                due[(place - placeOfZero(shift) + 7) % 7] = person;
            }
            chainIs("from the lowest one on, " + shift, x, due);
        }
        BeadParley x = new BeadParley();
        Make.wish(x, 6, 0, 1);
        Make.wish(x, 5, 1, 2);
        Make.wish(x, 4, 2, 0);
        chainIs("the lowest of the last ones", x, 4, 6, 5);
    }

    private static int placeOfZero(int shift) {
        int place = 0;
        while ((3 * place + shift) % 7 != 0) {
            place++;
        }
        return place;
    }

    private static void chainTheLongest() {
        BeadParley x = new BeadParley();
        Make.wish(x, 0, 0, 1);
        Make.wish(x, 1, 1, 0);
        Make.wish(x, 2, 2, 3);
        Make.wish(x, 3, 3, 4);
        Make.wish(x, 4, 4, 2);
        chainIs("three behind two", x, 2, 3, 4);
        x.lay(3, 3, 1);
        chainIs("two then", x, 0, 1);
        BeadParley y = new BeadParley();
        Make.wish(y, 6, 2, 3);
        Make.wish(y, 5, 3, 2);
        Make.wish(y, 0, 4, 5);
        Make.wish(y, 1, 5, 6);
        Make.wish(y, 2, 6, 7);
        Make.wish(y, 3, 7, 4);
        chainIs("four before two", y, 0, 1, 2, 3);
        y.unwish(2);
        chainIs("two behind none", y, 5, 6);
        BeadParley z = new BeadParley();
        Make.wish(z, 0, 0, 1);
        Make.wish(z, 1, 1, 0);
        Make.wish(z, 2, 1, 2);
        Make.wish(z, 3, 2, 0);
        chainIs("a longer way from the same one", z, 0, 2, 3);
        Make.wish(z, 4, 2, 5);
        Make.wish(z, 5, 5, 6);
        Make.wish(z, 6, 6, 0);
        chainIs("a longer way still", z, 0, 2, 4, 5, 6);
    }

    private static void chainTheLowerAtTheFirstDifference() {
        BeadParley x = new BeadParley();
        Make.wish(x, 1, 0, 1);
        Make.wish(x, 6, 1, 0);
        Make.wish(x, 2, 2, 3);
        Make.wish(x, 3, 3, 2);
        chainIs("the first place", x, 1, 6);
        Make.wish(x, 5, 1, 0);
        chainIs("the second place", x, 1, 5);
        Make.wish(x, 0, 3, 2);
        chainIs("the first place again", x, 0, 2);
        BeadParley y = new BeadParley();
        Make.wish(y, 0, 0, 1);
        Make.wish(y, 5, 1, 2);
        Make.wish(y, 6, 2, 0);
        Make.wish(y, 4, 2, 0);
        chainIs("the last place of three", y, 0, 5, 4);
        Make.wish(y, 1, 0, 1);
        Make.wish(y, 3, 1, 2);
        chainIs("six of two rounds", y, 0, 3, 4, 1, 5, 6);
        y.unwish(1);
        chainIs("the middle place of three", y, 0, 3, 4);
    }

    private static void chainOfManyAlike() {
        BeadParley x = new BeadParley();
        for (int person = 0; person < 7; person++) {
            Make.wish(x, person, person % 2, 1 - person % 2);
        }
        chainIs("four and three", x, 0, 1, 2, 3, 4, 5);
        x.unwish(3);
        chainIs("four and two", x, 0, 1, 2, 5);
        x.unwish(0);
        chainIs("three and two", x, 1, 2, 5, 4);
        x.unwish(1);
        x.unwish(5);
        chainIs("three of the one kind alone", x);
        BeadParley y = new BeadParley();
        for (int person = 0; person < 7; person++) {
            Make.wish(y, person, person % 3, (person + 1) % 3);
        }
        chainIs("three kinds", y, 0, 1, 2, 3, 4, 5);
        y.unwish(0);
        chainIs("three kinds of two", y, 1, 2, 3, 4, 5, 6);
    }

    private static void fairOfNobody() {
        for (Twins.Steps steps : new Twins.Steps[] {NEW, x -> Make.wish(x, 0, 0, 1)}) {
            Check.due("P24 nobody", 0, Twins.made(steps).fair());
            Twins.changesNothing("P24 nobody", steps, x -> x.fair());
        }
    }

    private static void fairGoesRound() {
        for (int people = 2; people <= 7; people++) {
            BeadParley x = new BeadParley();
            Make.ring(x, people);
            for (int colour = 0; colour < people; colour++) {
                x.bring(colour, colour, 9);
            }
            Check.due("P24 how many", people, x.fair());
            for (int person = 0; person < 7; person++) {
                for (int colour = 0; colour < 8; colour++) {
                    int due = 0;
                    if (person < people && colour == person) {
                        due = 9;
                    } else if (person < people && colour == (person + 1) % people) {
                        due = 1;
                    }
                    Check.due("P24 hand " + person + " colour " + colour, due, x.hand(person, colour));
                }
            }
            for (int colour = 0; colour < people; colour++) {
                Check.due("P24 none lost", 10, x.beads(colour));
                Check.due("P24 none brought", 10, x.brought(colour));
            }
        }
    }

    private static void fairOfTheBestAlone() {
        BeadParley x = new BeadParley();
        Make.wish(x, 0, 0, 1);
        Make.wish(x, 1, 1, 0);
        Make.wish(x, 2, 2, 3);
        Make.wish(x, 3, 3, 4);
        Make.wish(x, 4, 4, 2);
        Make.wish(x, 5, 5, 6);
        Make.wish(x, 6, 6, 5);
        int[] due = {3, 2, 2, 0};
        int[] first = {2, 0, 5, -1};
        for (int day = 0; day < 4; day++) {
            Check.due("P23 on day " + day, "" + (first[day] < 0 ? Twins.INDEX : first[day]),
                    Check.answerOf(() -> x.chainAt(0)));
            Check.due("P24 on day " + day, due[day], x.fair());
            for (int person = 0; person < 7; person++) {
                boolean bartered = day > 1 || person < 5 && (day == 1 || person > 1);
                Check.due("P24 who gave by day " + day, bartered ? 0 : 1, x.hand(person, person));
            }
        }
    }

    private static void fairUntilTheLastBead() {
        for (int poor = 0; poor < 3; poor++) {
            BeadParley x = new BeadParley();
            Make.ring(x, 3);
            for (int person = 0; person < 3; person++) {
                x.bring(person, person, person == poor ? 3 : 50);
            }
            for (int day = 1; day <= 4; day++) {
                Check.due("P24 day " + day, 3, x.fair());
                Check.due("P24 beads left", 4 - day, x.hand(poor, poor));
                Check.due("P24 beads got", day, x.hand(poor, (poor + 1) % 3));
            }
            Check.due("P24 none left", 0, x.fair());
            Check.due("P24 none left", 0, x.hand(poor, poor));
            Check.due("P24 nothing got", 4, x.hand(poor, (poor + 1) % 3));
        }
    }

    private static void fairOverAFullHand() {
        BeadParley x = new BeadParley();
        Make.fill(x, 6, 1, 100000);
        Make.wish(x, 6, 0, 1);
        x.bring(6, 0, 2);
        Make.wish(x, 2, 1, 0);
        x.bring(2, 1, 2);
        for (int day = 1; day <= 3; day++) {
            Check.due("P24 however many are in the hand", 2, x.fair());
            Check.due("P24 over 100000", 100000 + day, x.hand(6, 1));
        }
        Check.due("P5 over 100000", 100003, x.beads(1));
        Check.due("P6 over 100000", 100003, x.brought(1));
        Twins.Steps over = y -> {
            Make.fill(y, 6, 1, 100000);
            Make.wish(y, 6, 0, 1);
            Make.wish(y, 2, 1, 0);
            y.fair();
        };
        Twins.refused("P2 a hand over 100000", Twins.STATE, over, y -> y.bring(6, 1, 1));
        Twins.refused("P3 takes into a hand over 100000", Twins.STATE, y -> {
            over.on(y);
            y.bring(0, 1, 1);
            y.lay(0, 1, 1);
        }, y -> y.lay(6, 1, -1));
        BeadParley y = Twins.made(over);
        Check.due("P3 lays the one", 1, y.lay(6, 1, 1));
        Check.due("P4 a full hand", 100000, y.hand(6, 1));
        BeadParley z = Twins.made(over);
        z.wish(6, 1, 5);
        Make.wish(z, 0, 5, 1);
        Check.due("P24 gives of a hand over 100000", 2, z.fair());
        Check.due("P4 a full hand", 100000, z.hand(6, 1));
    }

    private static void fairKeepsWishes() {
        BeadParley x = new BeadParley();
        Make.ring(x, 7);
        Check.due("P24 all seven", 7, x.fair());
        Check.due("P24 no beads for a second one", 0, x.fair());
        for (int person = 0; person < 7; person++) {
            x.bring(person, person, 1);
        }
        Check.due("P24 all seven again", 7, x.fair());
        for (int person = 0; person < 7; person++) {
            Check.due("P20 the wish stayed", true, x.unwish(person));
        }
    }

    private static void askingChangesNothing() {
        for (Twins.Steps steps : STATES) {
            Twins.changesNothing("P21", steps, x -> x.chain());
            Twins.changesNothing("P22", steps, x -> x.chainByOrders());
            Twins.changesNothing("P23", steps, x -> x.chainAt(1));
        }
    }
}
