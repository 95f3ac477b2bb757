/** Dovecotes with a past, made anew at each call, and a look at all that one holds. */
final class Cotes {
    /** A text of 60 characters, that is a complete evening of 30 parts. */
    static final String FULL_TEXT = "x1;" + "^;".repeat(28) + "^";

    private Cotes() {
    }

    static LateDoves empty() {
        return new LateDoves();
    }

    /**
     * Five saved states, a snapshot, a stop, a text in the buffer. At 1000 of day 0 dove 0 (hole 0) and its mate 1
     * (hole 1): in hole 0 and out; dove 2 (hole 23): in it; dove 3: sold; dove 4 (hole 5): in it; dove 5 (hole 4): on
     * the roof. The holes 4 and 12 are shut, there are no shifts.
     */
    static LateDoves few() {
        LateDoves cote = new LateDoves();
        Check.pass(cote, "b0!5;b1!3;b23!9;b10!2;b5!4;b4!1;m0+1;x12;x4;h0@100");
        cote.sell(3);
        cote.set(1, 0);
        Check.pass(cote, "h5@200;h2@300;h4@1000");
        cote.keep();
        Check.pass(cote, "x12");
        Check.write(cote, "^;h1@");
        return cote;
    }

    /** Behind few() a dawn, and the doves 0, 2 and 4 come home at 50: six saved states. */
    static LateDoves many() {
        LateDoves cote = few();
        cote.dawn();
        cote.home(0, 50);
        cote.home(2, 50);
        cote.home(4, 50);
        Check.write(cote, "h1@");
        return cote;
    }

    /** Doves 0 to 15 sit in their own holes 8 to 23; the buffer is full. */
    static LateDoves full() {
        LateDoves cote = new LateDoves();
        for (int dove = 0; dove < 16; dove++) {
            cote.buy(8 + dove, 1 + dove % 9);
            cote.home(dove, dove);
        }
        Check.write(cote, FULL_TEXT);
        return cote;
    }

    /**
     * The longest way of shifts: dove 0 (hole 20) is out; dove 1 (hole 0, that is shut) sits in 20; the doves 2 to 9,
     * each weaker than the one ahead of it, sit in their own holes 1 to 8; no hole is free.
     */
    static LateDoves longRow(int limit) {
        LateDoves cote = new LateDoves();
        cote.buy(20, 1);
        for (int hole = 0; hole <= 8; hole++) {
            cote.buy(hole, 9 - hole);
        }
        Check.shutAllBut(cote, 20, 1, 2, 3, 4, 5, 6, 7, 8);
        for (int dove = 9; dove > 0; dove--) {
            cote.home(dove, 5);
        }
        cote.set(1, limit);
        return cote;
    }

    /** The hole `taken` alone is open, and its owner, dove 0 of this strength, sits in it. */
    static LateDoves oneOpen(int taken, int strength) {
        LateDoves cote = new LateDoves();
        cote.buy(taken, strength);
        Check.shutAllBut(cote, taken);
        cote.home(0, 0);
        return cote;
    }

    /** Buys a dove whose own hole is shut. */
    static int buyShut(LateDoves cote, int hole, int strength) {
        cote.open(hole);
        int dove = cote.buy(hole, strength);
        cote.shut(hole);
        return dove;
    }

    /** What the looks tell, but for the saved states and the stop. */
    static String numbers(LateDoves cote) {
        StringBuilder text = new StringBuilder();
        for (int what = 0; what < 17; what++) {
            text.append(cote.count(what)).append(' ');
        }
        for (int hole = 0; hole < 24; hole++) {
            text.append(", hole ").append(hole);
            for (int what = 0; what < 3; what++) {
                text.append(' ').append(cote.hole(hole, what));
            }
        }
        for (int dove = 0; dove < 16; dove++) {
            text.append(doveNumbers(cote, dove));
        }
        for (int step = 0; cote.step(step, 0) != LateDoves.NONE; step++) {
            text.append(", step ").append(cote.step(step, 0)).append(' ').append(cote.step(step, 1));
        }
        return text.toString();
    }

    private static String doveNumbers(LateDoves cote, int dove) {
        StringBuilder text = new StringBuilder(", dove " + dove);
        try {
            for (int what = 0; what < 8; what++) {
                text.append(' ').append(cote.dove(dove, what));
            }
            return text.toString();
        } catch (IndexOutOfBoundsException e) {
            return "";
        }
    }

    /** All that a cote holds: what it tells now, at each of its saved states, and at its snapshot; it is spent then. */
    static String all(LateDoves cote) {
        StringBuilder text = new StringBuilder("now " + cote.digest());
        for (int left = cote.count(17); left > 0; left--) {
            text.append(", saved ").append(cote.undo()).append(' ').append(cote.digest());
        }
        try {
            cote.restore();
            text.append(", snapshot ").append(cote.digest());
        } catch (IllegalStateException e) {
            text.append(", no snapshot");
        }
        return text.toString();
    }
}
