/** Steps that several tests take. */
final class Make {
    private Make() {
    }

    /** Draws a draft by rows of digits. */
    static void draw(BeadParley x, String... rows) {
        x.draft(rows[0].length(), rows.length);
        for (int row = 0; row < rows.length; row++) {
            for (int column = 0; column < rows[row].length(); column++) {
                x.bead(column, row, rows[row].charAt(column) - '0');
            }
        }
    }

    static int pattern(BeadParley x, int author, String... rows) {
        draw(x, rows);
        return x.pattern(author);
    }

    static int sign(BeadParley x, int worth, String... rows) {
        draw(x, rows);
        return x.sign(worth);
    }

    /** Brings more beads than one call can bring. */
    static void fill(BeadParley x, int person, int colour, int beads) {
        for (int left = beads; left > 0; left -= 1000) {
            x.bring(person, colour, Math.min(left, 1000));
        }
    }

    /** Gives somebody a wish and a bead for it. */
    static void wish(BeadParley x, int person, int gives, int wants) {
        x.bring(person, gives, 1);
        x.wish(person, gives, wants);
    }

    /** Each person gives the colour with their own number for that of the next one; the last one for that of the first. */
    static void ring(BeadParley x, int people) {
        for (int person = 0; person < people; person++) {
            wish(x, person, person, (person + 1) % people);
        }
    }

    /** A belt of the pattern 0, one bead of the colour 0, and signs that make its story that much. */
    static void tale(BeadParley x, int story) {
        x.pattern(0);
        x.bring(0, 0, 1);
        x.weave(0, 0);
        for (int left = story; left > 0; left -= 100) {
            x.sign(Math.min(left, 100));
        }
    }

    /** Two patterns (one a copy), a sign, two belts, beads on the stall, two who barter, one who heard, a wide draft. */
    static void some(BeadParley x) {
        pattern(x, 1, "12", "21");
        pattern(x, 4, "21", "12");
        sign(x, 7, "1");
        x.bring(0, 1, 9);
        x.bring(0, 2, 9);
        x.lay(0, 1, 3);
        x.weave(0, 0);
        x.weave(0, 1);
        x.give(1, 6);
        wish(x, 3, 1, 2);
        wish(x, 5, 2, 1);
        x.hear(0, 5);
        draw(x, "1234");
    }

    /** 12 patterns, 8 signs, 20 belts, seven who barter, a hand with 100000 beads, a draft that could be a sign. */
    static void full(BeadParley x) {
        x.draft(2, 2);
        for (int pattern = 0; pattern < 12; pattern++) {
            x.bead(pattern % 2, pattern / 2 % 2, 1 + pattern % 7);
            x.pattern(pattern % 7);
        }
        for (int sign = 0; sign < 8; sign++) {
            x.draft(1 + sign % 3, 1 + sign / 3);
            x.bead(0, 0, 1 + sign % 7);
            x.sign(1 + sign);
        }
        for (int colour = 0; colour < 8; colour++) {
            x.bring(0, colour, 200);
        }
        for (int belt = 0; belt < 20; belt++) {
            x.weave(0, belt % 12);
        }
        x.give(19, 3);
        ring(x, 7);
        x.lay(0, 0, 5);
        x.hear(0, 2);
        x.hear(0, 4);
        x.hear(1, 4);
        fill(x, 6, 7, 100000);
    }
}
