/** Promises 22 to 26: whyNot, ifHome, freeHole, lateIsAsGood, homeShare. */
public final class ForesightTest {
    private static final int NONE = LateDoves.NONE;
    private static final int ROOF = LateDoves.ROOF;

    public static void main(String[] args) {
        whyNot();
        ifHome();
        ifHomeChangesNothing();
        freeHole();
        lateIsAsGood();
        lateIsBetter();
        homeShare();
        Check.end();
    }

    private static void whyNot() {
        LateDoves cote = new LateDoves();
        cote.buy(0, 5);
        cote.buy(1, 5);
        Check.due("it can", cote.whyNot(0, 0), 0);
        cote.home(0, 100);
        Check.due("it is not out", cote.whyNot(0, 200), 1);
        Check.due("it is not out, and the time is gone", cote.whyNot(0, 0), 1);
        Check.due("the time is gone", cote.whyNot(1, 99), 2);
        Check.due("now", cote.whyNot(1, 100), 0);
        Check.due("1439", cote.whyNot(1, 1439), 0);
        Check.refused(cote, IndexOutOfBoundsException.class, "whyNot(2, -1)", () -> cote.whyNot(2, -1));
        Check.refused(cote, IndexOutOfBoundsException.class, "whyNot(-1, 0)", () -> cote.whyNot(-1, 0));
        Check.refused(cote, IndexOutOfBoundsException.class, "whyNot(16, 0)", () -> cote.whyNot(16, 0));
        Check.refused(cote, IllegalArgumentException.class, "whyNot(0, -1)", () -> cote.whyNot(0, -1));
        Check.refused(cote, IllegalArgumentException.class, "whyNot(0, 1440)", () -> cote.whyNot(0, 1440));
    }

    private static void would(LateDoves cote, int dove, int time, int place, int shifts, int more) {
        String what = "ifHome(" + dove + ", " + time + ", ";
        Check.due(what + "0)", cote.ifHome(dove, time, 0), place);
        Check.due(what + "1)", cote.ifHome(dove, time, 1), shifts);
        Check.due(what + "2)", cote.ifHome(dove, time, 2), more);
    }

    private static LateDoves row() {
        LateDoves cote = new LateDoves();
        cote.buy(0, 5);
        cote.buy(1, 3);
        cote.buy(23, 9);
        cote.buy(2, 1);
        Check.shutAllBut(cote, 0, 1);
        cote.home(0, 1);
        cote.home(1, 1);
        return cote;
    }

    private static void ifHome() {
        LateDoves cote = row();
        would(cote, 2, 1200, 0, 2, 1);
        would(cote, 3, 1200, ROOF, 0, 1);
        would(cote, 2, 0, NONE, NONE, NONE);
        would(cote, 0, 1200, NONE, NONE, NONE);
        cote.open(7);
        would(cote, 2, 5, 7, 0, 0);
        Check.refused(cote, IndexOutOfBoundsException.class, "ifHome(4, -1, 3)", () -> cote.ifHome(4, -1, 3));
        Check.refused(cote, IndexOutOfBoundsException.class, "ifHome(-1, 0, 0)", () -> cote.ifHome(-1, 0, 0));
        Check.refused(cote, IllegalArgumentException.class, "ifHome(2, 1440, 0)", () -> cote.ifHome(2, 1440, 0));
        Check.refused(cote, IllegalArgumentException.class, "ifHome(2, -1, 0)", () -> cote.ifHome(2, -1, 0));
        Check.refused(cote, IllegalArgumentException.class, "ifHome(2, 5, 3)", () -> cote.ifHome(2, 5, 3));
        Check.refused(cote, IllegalArgumentException.class, "ifHome(0, 0, -1)", () -> cote.ifHome(0, 0, -1));
    }

    private static void ifHomeChangesNothing() {
        LateDoves cote = row();
        int saved = cote.count(17);
        long before = cote.digest();
        cote.ifHome(2, 1200, 0);
        cote.lateIsAsGood();
        Check.due("digest() behind ifHome()", cote.digest(), before);
        Check.due("shifts so far", cote.count(9), 0);
        Check.due("saved states", cote.count(17), saved);
        Check.steps(cote, "the latest coming home", 1, 1);
    }

    private static void freeHole() {
        LateDoves cote = new LateDoves();
        Check.due("freeHole()", cote.freeHole(), 0);
        cote.buy(0, 1);
        cote.shut(1);
        cote.buy(3, 1);
        Check.due("freeHole()", cote.freeHole(), 2);
        cote.buy(2, 1);
        Check.due("freeHole()", cote.freeHole(), 4);
        cote.sell(0);
        Check.due("freeHole() behind a sale", cote.freeHole(), 0);
        Check.shutAllBut(cote, 1, 3, 23);
        Check.due("the last one", cote.freeHole(), 23);
        cote.shut(23);
        Check.due("no one", cote.freeHole(), NONE);

        LateDoves guest = new LateDoves();
        guest.buy(0, 1);
        guest.shut(0);
        guest.home(0, 1);
        Check.due("a guest sits in hole 1", guest.dove(0, 2), 1);
        Check.due("hole 1 is no dove's own", guest.freeHole(), 1);
    }

    private static void lateIsAsGood() {
        LateDoves cote = new LateDoves();
        Check.due("without doves", cote.lateIsAsGood(), 1);
        cote.buy(0, 1);
        Check.due("with one dove", cote.lateIsAsGood(), 1);
        Check.due("on the roof both times", lonely().lateIsAsGood(), 1);
    }

    private static LateDoves lonely() {
        LateDoves cote = new LateDoves();
        cote.buy(0, 1);
        Check.shutAllBut(cote);
        return cote;
    }

    /** Without shifts a dove in time sends the guest to the roof, though hole 9 is free for a late one. */
    private static void lateIsBetter() {
        LateDoves cote = new LateDoves();
        cote.buy(0, 1);
        cote.buy(5, 9);
        Check.shutAllBut(cote, 0);
        cote.home(1, 3);
        cote.open(9);
        cote.set(1, 0);
        would(cote, 0, 3, 0, 0, 1);
        would(cote, 0, 1439, 9, 0, 0);
        Check.due("late is better", cote.lateIsAsGood(), 1);
        cote.set(0, 1439);
        would(cote, 0, 1439, 0, 0, 1);
        Check.due("in time both times", cote.lateIsAsGood(), 1);
    }

    private static void homeShare() {
        LateDoves cote = new LateDoves();
        Check.dueDouble("without doves", cote.homeShare(), 1.0);
        cote.buy(0, 1);
        cote.buy(1, 1);
        cote.buy(2, 1);
        Check.dueDouble("none", cote.homeShare(), 0.0);
        cote.home(0, 5);
        Check.dueDouble("one of three", cote.homeShare(), 1.0 / 3.0);
        cote.shut(1);
        cote.home(1, 6);
        Check.dueDouble("another one's hole is not home", cote.homeShare(), 1.0 / 3.0);
        cote.home(2, 7);
        Check.dueDouble("two of three", cote.homeShare(), 2.0 / 3.0);
        cote.sell(1);
        Check.dueDouble("all", cote.homeShare(), 1.0);
    }
}
