/** Promises 1 to 7: a new object, buy, sell, mate, shut, open, set. */
public final class DovesAndHolesTest {
    private static final int NONE = LateDoves.NONE;
    private static final int ROOF = LateDoves.ROOF;

    public static void main(String[] args) {
        newObject();
        buy();
        buyRefused();
        sell();
        mate();
        shut();
        open();
        set();
        Check.end();
    }

    private static void newObject() {
        Check.due("NONE", NONE, -1);
        Check.due("ROOF", ROOF, 24);
        LateDoves cote = new LateDoves();
        int[] counts = {0, 0, 0, 0, 0, 0, 0, 24, 0, 0, 0, 0, 0, 0, 0, 1080, 6, 0};
        for (int what = 0; what < counts.length; what++) {
            Check.due("new: count(" + what + ")", cote.count(what), counts[what]);
        }
        for (int hole = 0; hole < 24; hole++) {
            Check.due("new: sitter of " + hole, cote.hole(hole, 0), NONE);
            Check.due("new: owner of " + hole, cote.hole(hole, 1), NONE);
            Check.due("new: open " + hole, cote.hole(hole, 2), 1);
        }
        Check.steps(cote, "new");
        Check.due("new: stopped(0)", cote.stopped(0), NONE);
        Check.due("new: stopped(1)", cote.stopped(1), NONE);
        Check.due("new: clearBuffer()", cote.clearBuffer(), 0);
        Check.due("new: firstError()", cote.firstError(), 0);
        Check.refused(cote, IllegalStateException.class, "restore() when new", cote::restore);
        Check.refused(cote, IllegalStateException.class, "undo() when new", cote::undo);
        Check.refused(cote, IndexOutOfBoundsException.class, "dove(0, 0) when new", () -> cote.dove(0, 0));
    }

    private static void buy() {
        LateDoves cote = new LateDoves();
        Check.due("first buy", cote.buy(23, 9), 0);
        Check.due("second buy", cote.buy(0, 1), 1);
        Check.due("third buy", cote.buy(7, 5), 2);
        Check.doveIs(cote, 0, 23, 9, NONE, NONE, 0, 0, 0, 0);
        Check.doveIs(cote, 1, 0, 1, NONE, NONE, 0, 0, 0, 0);
        Check.due("owner of 23", cote.hole(23, 1), 0);
        Check.due("owner of 0", cote.hole(0, 1), 1);
        Check.due("sitter of 23", cote.hole(23, 0), NONE);
        Check.due("doves that are out", cote.count(6), 3);
        Check.due("saved states", cote.count(17), 3);
        cote.sell(2);
        cote.sell(0);
        Check.due("the lowest free number", cote.buy(5, 2), 0);
        Check.due("the next free number", cote.buy(23, 2), 2);
        Check.due("the number behind all", cote.buy(6, 2), 3);
    }

    private static void buyRefused() {
        LateDoves cote = new LateDoves();
        Check.refused(cote, IndexOutOfBoundsException.class, "buy(-1, 0)", () -> cote.buy(-1, 0));
        Check.refused(cote, IndexOutOfBoundsException.class, "buy(24, 10)", () -> cote.buy(24, 10));
        Check.refused(cote, IndexOutOfBoundsException.class, "buy(max, 5)", () -> cote.buy(Integer.MAX_VALUE, 5));
        Check.refused(cote, IndexOutOfBoundsException.class, "buy(min, 5)", () -> cote.buy(Integer.MIN_VALUE, 5));
        cote.buy(0, 5);
        cote.shut(1);
        Check.refused(cote, IllegalArgumentException.class, "buy(0, 0)", () -> cote.buy(0, 0));
        Check.refused(cote, IllegalArgumentException.class, "buy(1, 10)", () -> cote.buy(1, 10));
        Check.refused(cote, IllegalStateException.class, "buy of an own hole", () -> cote.buy(0, 5));
        Check.refused(cote, IllegalStateException.class, "buy of a shut hole", () -> cote.buy(1, 5));
        for (int hole = 2; hole < 17; hole++) {
            cote.buy(hole, 1);
        }
        Check.due("doves", cote.count(2), 16);
        Check.refused(cote, IllegalStateException.class, "buy of a 17th dove", () -> cote.buy(20, 5));
        Check.refused(cote, IllegalArgumentException.class, "buy of a 17th dove, too weak", () -> cote.buy(20, 0));
        cote.sell(9);
        Check.due("buy behind a sale", cote.buy(20, 5), 9);
    }

    private static void sell() {
        LateDoves cote = new LateDoves();
        cote.buy(0, 5);
        cote.buy(1, 5);
        cote.buy(2, 5);
        cote.mate(0, 1);
        cote.home(1, 2);
        Check.due("sale of one that sits", cote.sell(1), 1);
        Check.due("its hole's sitter", cote.hole(1, 0), NONE);
        Check.due("its hole's owner", cote.hole(1, 1), NONE);
        Check.due("its mate's mate", cote.dove(0, 3), NONE);
        Check.due("pairs", cote.count(8), 0);
        Check.due("sale of one that is out", cote.sell(2), NONE);
        Check.due("doves", cote.count(2), 1);
        Check.due("doves in holes", cote.count(4), 0);
        Check.refused(cote, IndexOutOfBoundsException.class, "sell(1), sold", () -> cote.sell(1));
        Check.refused(cote, IndexOutOfBoundsException.class, "sell(-1)", () -> cote.sell(-1));
        Check.refused(cote, IndexOutOfBoundsException.class, "sell(16)", () -> cote.sell(16));
        Check.steps(cote, "the steps of one that was sold", 1, 1);

        LateDoves roof = new LateDoves();
        roof.buy(0, 5);
        roof.buy(5, 5);
        Check.shutAllBut(roof, 0);
        roof.home(0, 1);
        roof.home(1, 1200);
        roof.mate(0, 1);
        Check.due("sale of one on the roof", roof.sell(1), ROOF);
        Check.due("on the roof", roof.count(5), 0);
        Check.due("sale of one in hole 0", roof.sell(0), 0);
        roof.buy(0, 3);
        Check.doveIs(roof, 0, 0, 3, NONE, NONE, 0, 0, 0, 0);
        newDoveHasNoPast();
    }

    private static void newDoveHasNoPast() {
        LateDoves cote = new LateDoves();
        cote.buy(0, 9);
        cote.dawn();
        cote.home(0, 1100);
        cote.dawn();
        cote.home(0, 1100);
        Check.doveIs(cote, 0, 0, 9, 0, NONE, 2, 0, 1, 1);
        cote.sell(0);
        cote.buy(3, 2);
        Check.doveIs(cote, 0, 3, 2, NONE, NONE, 0, 0, 0, 0);
        Check.due("nobody is counted at home", cote.count(3), 0);
    }

    private static void mate() {
        LateDoves cote = new LateDoves();
        for (int hole = 0; hole < 5; hole++) {
            cote.buy(hole, 5);
        }
        Check.due("first pair", cote.mate(3, 1), 1);
        Check.due("mate of 3", cote.dove(3, 3), 1);
        Check.due("mate of 1", cote.dove(1, 3), 3);
        Check.due("second pair", cote.mate(0, 4), 2);
        Check.due("saved states", cote.count(17), 6);
        Check.refused(cote, IllegalStateException.class, "mate(2, 2)", () -> cote.mate(2, 2));
        Check.refused(cote, IllegalStateException.class, "mate(2, 1)", () -> cote.mate(2, 1));
        Check.refused(cote, IllegalStateException.class, "mate(1, 2)", () -> cote.mate(1, 2));
        Check.refused(cote, IllegalStateException.class, "mate(1, 3)", () -> cote.mate(1, 3));
        Check.refused(cote, IndexOutOfBoundsException.class, "mate(5, 5)", () -> cote.mate(5, 5));
        Check.refused(cote, IndexOutOfBoundsException.class, "mate(1, 5)", () -> cote.mate(1, 5));
        Check.refused(cote, IndexOutOfBoundsException.class, "mate(-1, 2)", () -> cote.mate(-1, 2));
        Check.refused(cote, IndexOutOfBoundsException.class, "mate(2, 16)", () -> cote.mate(2, 16));
        cote.sell(3);
        Check.due("a pair behind a sale", cote.mate(1, 2), 2);
    }

    private static void shut() {
        LateDoves cote = new LateDoves();
        cote.buy(0, 5);
        Check.due("shut(0), an own hole", cote.shut(0), 23);
        Check.due("shut(23)", cote.shut(23), 22);
        Check.due("hole 23 is shut", cote.hole(23, 2), 0);
        Check.due("saved states", cote.count(17), 3);
        cote.open(0);
        cote.home(0, 1);
        Check.refused(cote, IllegalStateException.class, "shut of a taken hole", () -> cote.shut(0));
        Check.refused(cote, IllegalStateException.class, "shut of a shut hole", () -> cote.shut(23));
        Check.refused(cote, IndexOutOfBoundsException.class, "shut(24)", () -> cote.shut(24));
        Check.refused(cote, IndexOutOfBoundsException.class, "shut(-1)", () -> cote.shut(-1));
        cote.dawn();
        Check.due("shut behind dawn", cote.shut(0), 22);
    }

    private static void open() {
        LateDoves cote = new LateDoves();
        cote.shut(5);
        cote.shut(6);
        Check.due("open(5)", cote.open(5), 23);
        Check.due("hole 5 is open", cote.hole(5, 2), 1);
        Check.due("hole 6 is shut", cote.hole(6, 2), 0);
        Check.due("open(5) again", cote.open(5), 23);
        Check.due("saved states", cote.count(17), 4);
        Check.due("open(6)", cote.open(6), 24);
        Check.refused(cote, IndexOutOfBoundsException.class, "open(24)", () -> cote.open(24));
        Check.refused(cote, IndexOutOfBoundsException.class, "open(-1)", () -> cote.open(-1));
    }

    private static void set() {
        LateDoves cote = new LateDoves();
        Check.due("set(0, 0)", cote.set(0, 0), 1080);
        Check.due("set(0, 1439)", cote.set(0, 1439), 0);
        Check.due("count(15)", cote.count(15), 1439);
        Check.due("set(1, 24)", cote.set(1, 24), 6);
        Check.due("set(1, 0)", cote.set(1, 0), 24);
        Check.due("count(16)", cote.count(16), 0);
        Check.due("saved states", cote.count(17), 4);
        Check.refused(cote, IndexOutOfBoundsException.class, "set(-1, -1)", () -> cote.set(-1, -1));
        Check.refused(cote, IndexOutOfBoundsException.class, "set(2, 0)", () -> cote.set(2, 0));
        Check.refused(cote, IllegalArgumentException.class, "set(0, -1)", () -> cote.set(0, -1));
        Check.refused(cote, IllegalArgumentException.class, "set(0, 1440)", () -> cote.set(0, 1440));
        Check.refused(cote, IllegalArgumentException.class, "set(1, -1)", () -> cote.set(1, -1));
        Check.refused(cote, IllegalArgumentException.class, "set(1, 25)", () -> cote.set(1, 25));
    }
}
