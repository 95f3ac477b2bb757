/** Promises 18 to 20: dove, hole, count. */
public final class LooksTest {
    private static final int NONE = LateDoves.NONE;
    private static final int ROOF = LateDoves.ROOF;

    public static void main(String[] args) {
        dove();
        hole();
        count();
        countOfADawn();
        Check.end();
    }

    /** Holes 0 and 1 are open; dove 2 sits in 0, dove 0 in 1, dove 1 was shifted to the roof, dove 3 is out. */
    private static LateDoves some() {
        LateDoves cote = new LateDoves();
        cote.buy(0, 5);
        cote.buy(1, 3);
        cote.buy(23, 9);
        cote.buy(2, 2);
        cote.mate(2, 0);
        Check.shutAllBut(cote, 0, 1);
        cote.home(1, 5);
        cote.home(2, 1100);
        cote.home(0, 1200);
        return cote;
    }

    private static void dove() {
        LateDoves cote = some();
        Check.doveIs(cote, 0, 0, 5, 1, 2, 1, 0, 0, 0);
        Check.doveIs(cote, 1, 1, 3, ROOF, NONE, 0, 1, 0, 0);
        Check.doveIs(cote, 2, 23, 9, 0, 0, 1, 0, 0, 0);
        Check.doveIs(cote, 3, 2, 2, NONE, NONE, 0, 0, 0, 0);
        Check.refused(cote, IndexOutOfBoundsException.class, "dove(4, 8)", () -> cote.dove(4, 8));
        Check.refused(cote, IndexOutOfBoundsException.class, "dove(-1, 0)", () -> cote.dove(-1, 0));
        Check.refused(cote, IndexOutOfBoundsException.class, "dove(16, 0)", () -> cote.dove(16, 0));
        Check.refused(cote, IllegalArgumentException.class, "dove(0, 8)", () -> cote.dove(0, 8));
        Check.refused(cote, IllegalArgumentException.class, "dove(0, -1)", () -> cote.dove(0, -1));
        long before = cote.digest();
        cote.dove(1, 2);
        Check.due("digest() behind dove()", cote.digest(), before);
    }

    private static void hole() {
        LateDoves cote = some();
        Check.due("hole(0, 0)", cote.hole(0, 0), 2);
        Check.due("hole(1, 0)", cote.hole(1, 0), 0);
        Check.due("hole(2, 0)", cote.hole(2, 0), NONE);
        Check.due("hole(23, 0)", cote.hole(23, 0), NONE);
        Check.due("hole(0, 1)", cote.hole(0, 1), 0);
        Check.due("hole(2, 1)", cote.hole(2, 1), 3);
        Check.due("hole(23, 1)", cote.hole(23, 1), 2);
        Check.due("hole(22, 1)", cote.hole(22, 1), NONE);
        Check.due("hole(1, 2)", cote.hole(1, 2), 1);
        Check.due("hole(2, 2)", cote.hole(2, 2), 0);
        Check.refused(cote, IndexOutOfBoundsException.class, "hole(24, 3)", () -> cote.hole(24, 3));
        Check.refused(cote, IndexOutOfBoundsException.class, "hole(-1, 0)", () -> cote.hole(-1, 0));
        Check.refused(cote, IllegalArgumentException.class, "hole(0, 3)", () -> cote.hole(0, 3));
        Check.refused(cote, IllegalArgumentException.class, "hole(0, -1)", () -> cote.hole(0, -1));
    }

    private static void counts(LateDoves cote, int... want) {
        for (int what = 0; what < want.length; what++) {
            Check.due("count(" + what + ")", cote.count(what), want[what]);
        }
    }

    private static void count() {
        LateDoves cote = some();
        cote.set(0, 900);
        cote.set(1, 4);
        counts(cote, 0, 1200, 4, 2, 2, 1, 1, 2, 1, 1, 1, 0, 0, 0, 0, 900, 4, 6);
        cote.undo();
        Check.due("saved states", cote.count(17), 5);
        Check.refused(cote, IllegalArgumentException.class, "count(-1)", () -> cote.count(-1));
        Check.refused(cote, IllegalArgumentException.class, "count(18)", () -> cote.count(18));
    }

    private static void countOfADawn() {
        LateDoves cote = some();
        cote.open(2);
        cote.home(3, 1300);
        cote.open(9);
        cote.buy(9, 1);
        Check.due("dawn()", cote.dawn(), 3);
        counts(cote, 1, 0, 5, 0, 0, 0, 5, 4, 1, 1, 1, 1, 2, 1, 1, 1080, 6, 6);
    }
}
