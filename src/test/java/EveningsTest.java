/** Promises 8, 9 and 21: home, dawn, step. */
public final class EveningsTest {
    private static final int NONE = LateDoves.NONE;
    private static final int ROOF = LateDoves.ROOF;

    public static void main(String[] args) {
        inTimeOrLate();
        refused();
        lateLooksInOrder();
        besideTheMate();
        mateAtTheEnds();
        inTimeWithOwnHoleShut();
        chainOfShifts();
        chainUnderLimits();
        equalStrengthIsNotShifted();
        besideIsShut();
        matesDoNotQuarrel();
        inTimeShifts();
        inTimeWithoutShifts();
        shiftedBack();
        shiftedFindsAHole();
        longestWay();
        dawn();
        stepRefused();
        Check.end();
    }

    private static void inTimeOrLate() {
        LateDoves cote = new LateDoves();
        cote.buy(4, 5);
        cote.buy(9, 5);
        Check.due("home at dusk", cote.home(0, 1080), 0);
        Check.doveIs(cote, 0, 4, 5, 4, NONE, 0, 0, 0, 0);
        Check.due("the time", cote.count(1), 1080);
        Check.due("home behind dusk", cote.home(1, 1081), 0);
        Check.doveIs(cote, 1, 9, 5, 9, NONE, 1, 0, 0, 0);
        Check.due("the time", cote.count(1), 1081);
        Check.due("sitter of 9", cote.hole(9, 0), 1);
        Check.steps(cote, "the latest coming home", 1, 9);
    }

    private static void refused() {
        LateDoves cote = new LateDoves();
        cote.buy(4, 5);
        cote.buy(5, 5);
        cote.home(0, 100);
        Check.refused(cote, IndexOutOfBoundsException.class, "home(2, -1)", () -> cote.home(2, -1));
        Check.refused(cote, IndexOutOfBoundsException.class, "home(-1, 0)", () -> cote.home(-1, 0));
        Check.refused(cote, IndexOutOfBoundsException.class, "home(16, 0)", () -> cote.home(16, 0));
        Check.refused(cote, IllegalArgumentException.class, "home(0, -1)", () -> cote.home(0, -1));
        Check.refused(cote, IllegalArgumentException.class, "home(1, 1440)", () -> cote.home(1, 1440));
        Check.refused(cote, IllegalStateException.class, "home of one that sits", () -> cote.home(0, 200));
        Check.refused(cote, IllegalStateException.class, "home ahead of now", () -> cote.home(1, 99));
        Check.due("home at now", cote.home(1, 100), 0);
        Check.due("saved states", cote.count(17), 4);
        cote.dawn();
        Check.due("home at 0 behind dawn", cote.home(1, 0), 0);
    }

    private static void lateLooksInOrder() {
        LateDoves cote = new LateDoves();
        cote.set(0, 0);
        for (int dove = 0; dove < 4; dove++) {
            cote.buy(20 + dove, 1);
        }
        cote.buy(5, 1);
        cote.shut(20);
        cote.home(0, 1);
        Check.due("own hole shut, so the next one", cote.dove(0, 2), 21);
        cote.home(1, 2);
        Check.due("own hole taken, so the next one", cote.dove(1, 2), 22);
        cote.home(3, 3);
        cote.home(2, 3);
        Check.due("around the end", cote.dove(2, 2), 0);
        Check.due("late ones", cote.dove(2, 4), 1);
        cote.home(4, 1439);
        Check.due("own hole first", cote.dove(4, 2), 5);
    }

    private static void besideTheMate() {
        LateDoves cote = new LateDoves();
        cote.buy(10, 1);
        cote.buy(2, 1);
        cote.buy(9, 1);
        cote.mate(0, 1);
        cote.home(0, 10);
        Check.due("late, with a mate at 10", cote.ifHome(1, 1081, 0), 9);
        Check.due("in time, with a mate at 10", cote.ifHome(1, 1080, 0), 2);
        cote.home(2, 10);
        Check.due("late, with 9 taken", cote.ifHome(1, 1081, 0), 11);
        cote.shut(11);
        Check.due("late, with 11 shut", cote.ifHome(1, 1081, 0), 2);
        cote.open(11);
        cote.home(1, 1200);
        Check.due("late at its mate", cote.dove(1, 2), 11);
        cote.dawn();
        cote.home(1, 1200);
        Check.due("late, and its mate is out", cote.dove(1, 2), 2);
        Check.due("late beside its mate, not in its own", cote.ifHome(0, 1300, 0), 1);
    }

    private static void mateAtTheEnds() {
        LateDoves cote = new LateDoves();
        cote.buy(0, 1);
        cote.buy(23, 1);
        cote.buy(12, 1);
        cote.mate(0, 2);
        cote.home(0, 10);
        Check.due("beside hole 0", cote.ifHome(2, 1081, 0), 1);
        cote.shut(1);
        Check.due("beside hole 0, with 1 shut", cote.ifHome(2, 1081, 0), 12);
        cote.sell(0);
        cote.mate(1, 2);
        cote.home(1, 20);
        Check.due("beside hole 23", cote.ifHome(2, 1081, 0), 22);
        cote.shut(22);
        Check.due("beside hole 23, with 22 shut", cote.ifHome(2, 1081, 0), 12);

        LateDoves roof = new LateDoves();
        roof.buy(3, 1);
        roof.buy(4, 1);
        roof.buy(8, 1);
        roof.mate(1, 2);
        Check.shutAllBut(roof, 3);
        roof.home(0, 10);
        roof.home(1, 20);
        Check.due("the mate is on the roof", roof.dove(1, 2), ROOF);
        roof.open(23);
        roof.open(8);
        Check.due("a mate on the roof is not in a hole", roof.ifHome(2, 1100, 0), 8);
    }

    private static void inTimeWithOwnHoleShut() {
        LateDoves cote = new LateDoves();
        cote.buy(10, 1);
        cote.buy(2, 1);
        cote.mate(0, 1);
        cote.home(0, 10);
        cote.shut(2);
        cote.home(1, 20);
        Check.due("it looks as a late one, at its mate first", cote.dove(1, 2), 9);
        Check.due("it is not late", cote.dove(1, 4), 0);
    }

    /** Holes 0 to 2 are open and taken by doves 0 to 2; dove 3 has hole 23, which is shut. */
    private static LateDoves row() {
        LateDoves cote = new LateDoves();
        cote.buy(0, 5);
        cote.buy(1, 3);
        cote.buy(2, 1);
        cote.buy(23, 9);
        Check.shutAllBut(cote, 0, 1, 2);
        cote.home(0, 1);
        cote.home(1, 1);
        cote.home(2, 1);
        return cote;
    }

    private static void chainOfShifts() {
        LateDoves cote = row();
        cote.mate(0, 1);
        Check.due("shifts", cote.home(3, 1200), 3);
        Check.steps(cote, "the chain", 3, 0, 0, 1, 1, 2, 2, ROOF);
        Check.due("shifts so far", cote.count(9), 3);
        Check.due("quarrels so far", cote.count(10), 2);
        Check.doveIs(cote, 3, 23, 9, 0, NONE, 1, 0, 0, 0);
        Check.doveIs(cote, 0, 0, 5, 1, 1, 0, 1, 0, 0);
        Check.doveIs(cote, 1, 1, 3, 2, 0, 0, 1, 0, 0);
        Check.doveIs(cote, 2, 2, 1, ROOF, NONE, 0, 1, 0, 0);
        Check.due("sitter of 0", cote.hole(0, 0), 3);
        Check.due("sitter of 1", cote.hole(1, 0), 0);
        Check.due("sitter of 2", cote.hole(2, 0), 1);
        Check.due("in holes, by the doves", cote.count(3), 3);
        Check.due("in holes, by the holes", cote.count(4), 3);
        Check.due("on the roof", cote.count(5), 1);
    }

    private static void chainUnderLimits() {
        LateDoves two = row();
        two.set(1, 2);
        Check.due("shifts, at most 2", two.home(3, 20), 2);
        Check.steps(two, "at most 2", 3, 0, 0, 1, 1, ROOF);
        Check.due("the third is not shifted", two.dove(2, 2), 2);
        Check.due("nor counted", two.dove(2, 5), 0);

        LateDoves three = row();
        three.set(1, 3);
        Check.due("shifts, at most 3", three.home(3, 20), 3);

        LateDoves none = row();
        none.set(1, 0);
        Check.due("shifts, at most 0", none.home(3, 1200), 0);
        Check.steps(none, "at most 0", 3, ROOF);
        Check.due("shifts so far", none.count(9), 0);
        Check.due("dove 0 sits", none.dove(0, 2), 0);
    }

    private static void equalStrengthIsNotShifted() {
        LateDoves cote = new LateDoves();
        cote.buy(0, 5);
        cote.buy(23, 5);
        cote.buy(22, 9);
        Check.shutAllBut(cote, 0);
        cote.home(0, 1);
        Check.due("an equal one", cote.home(1, 20), 0);
        Check.steps(cote, "an equal one", 1, ROOF);
        Check.due("not beside its own", cote.home(2, 20), 0);
        Check.steps(cote, "not beside its own", 2, ROOF);
    }

    private static void besideIsShut() {
        LateDoves cote = new LateDoves();
        cote.buy(10, 1);
        cote.buy(11, 9);
        Check.shutAllBut(cote, 10);
        cote.home(0, 1);
        Check.due("the hole beside is shut", cote.home(1, 1200), 0);
        Check.steps(cote, "the hole beside is shut", 1, ROOF);
    }

    private static void matesDoNotQuarrel() {
        LateDoves cote = new LateDoves();
        cote.buy(0, 5);
        cote.buy(23, 6);
        Check.shutAllBut(cote, 0);
        cote.mate(1, 0);
        cote.home(0, 1);
        Check.due("a mate is shifted", cote.home(1, 1200), 1);
        Check.steps(cote, "a mate is shifted", 1, 0, 0, ROOF);
        Check.due("shifts", cote.count(9), 1);
        Check.due("quarrels", cote.count(10), 0);
    }

    /** Hole 0 alone is open and dove 1 sits in it; it is the own one of dove 0. */
    private static LateDoves guest() {
        LateDoves cote = new LateDoves();
        cote.buy(0, 1);
        cote.buy(5, 9);
        Check.shutAllBut(cote, 0);
        cote.home(1, 3);
        return cote;
    }

    private static void inTimeShifts() {
        LateDoves cote = guest();
        Check.due("in time, own hole taken by a stronger one", cote.home(0, 1080), 1);
        Check.steps(cote, "in time", 0, 0, 1, ROOF);
        Check.due("shifts", cote.count(9), 1);
        Check.due("quarrels", cote.count(10), 1);
        Check.due("dove 1 was shifted", cote.dove(1, 5), 1);

        LateDoves late = guest();
        Check.due("late, own hole taken", late.home(0, 1081), 0);
        Check.steps(late, "late", 0, ROOF);
    }

    private static void inTimeWithoutShifts() {
        LateDoves cote = guest();
        cote.set(1, 0);
        Check.due("in time, no shifts", cote.home(0, 1080), 0);
        Check.steps(cote, "in time, no shifts", 0, 0);
        Check.due("dove 0 sits at home", cote.dove(0, 2), 0);
        Check.due("dove 1 sits on the roof", cote.dove(1, 2), ROOF);
        Check.due("it was not shifted", cote.dove(1, 5), 0);
        Check.due("shifts", cote.count(9), 0);
        Check.due("quarrels", cote.count(10), 0);
        Check.due("in holes, by the doves", cote.count(3), 1);
        Check.due("in holes, by the holes", cote.count(4), 1);

        LateDoves free = guest();
        free.set(1, 0);
        free.open(7);
        free.home(0, 1080);
        Check.due("on the roof, though a hole is free", free.dove(1, 2), ROOF);
    }

    /** Dove 1 has hole 23, so the one in time that shifts it out of hole 0 is shifted by it. */
    private static void shiftedBack() {
        LateDoves cote = new LateDoves();
        cote.buy(0, 1);
        cote.buy(23, 9);
        Check.shutAllBut(cote, 0);
        cote.home(1, 3);
        Check.due("ifHome: where it sits at the end", cote.ifHome(0, 4, 0), ROOF);
        Check.due("ifHome: shifts", cote.ifHome(0, 4, 1), 2);
        Check.due("ifHome: more on the roof", cote.ifHome(0, 4, 2), 1);
        Check.due("shifts", cote.home(0, 4), 2);
        Check.steps(cote, "shifted back", 0, 0, 1, 0, 0, ROOF);
        Check.due("dove 0 was shifted", cote.dove(0, 5), 1);
        Check.due("dove 1 was shifted", cote.dove(1, 5), 1);
        Check.due("sitter of 0", cote.hole(0, 0), 1);

        LateDoves one = new LateDoves();
        one.buy(0, 1);
        one.buy(23, 9);
        one.set(1, 1);
        Check.shutAllBut(one, 0);
        one.home(1, 3);
        Check.due("shifts, at most 1", one.home(0, 4), 1);
        Check.steps(one, "at most 1", 0, 0, 1, ROOF);
    }

    private static void shiftedFindsAHole() {
        LateDoves cote = guest();
        cote.open(9);
        cote.open(4);
        Check.due("in time, and another hole is free", cote.home(0, 10), 1);
        Check.steps(cote, "from the own hole on", 0, 0, 1, 9);

        LateDoves mates = guest();
        mates.mate(0, 1);
        mates.open(1);
        mates.open(5);
        Check.due("shifted by its mate", mates.home(0, 10), 1);
        Check.steps(mates, "beside its mate", 0, 0, 1, 1);
        Check.due("no quarrel", mates.count(10), 0);
        Check.due("a shifted one is not late", mates.dove(1, 4), 0);
    }

    private static void longestWay() {
        LateDoves cote = Cotes.longRow(24);
        Check.due("the longest way", cote.home(0, 6), 9);
        Check.steps(cote, "the longest way", 0, 20, 1, 1, 2, 2, 3, 3, 4, 4, 5, 5, 6, 6, 7, 7, 8, 8, 9, ROOF);
        Check.due("shifts", cote.count(9), 9);

        LateDoves eight = Cotes.longRow(8);
        Check.due("at most 8", eight.home(0, 6), 8);
        Check.steps(eight, "at most 8", 0, 20, 1, 1, 2, 2, 3, 3, 4, 4, 5, 5, 6, 6, 7, 7, 8, ROOF);
        Check.due("dove 9 stays", eight.dove(9, 2), 8);
        Check.due("the next coming home begins anew", nextNight(eight), 8);
        Check.due("shifts so far", eight.count(9), 16);
    }

    private static int nextNight(LateDoves cote) {
        cote.dawn();
        for (int dove = 9; dove > 0; dove--) {
            cote.home(dove, 5);
        }
        Check.due("ifHome: shifts", cote.ifHome(0, 6, 1), 8);
        return cote.home(0, 6);
    }

    private static void dawn() {
        LateDoves cote = row();
        cote.open(3);
        cote.buy(3, 2);
        cote.shut(3);
        cote.home(3, 1200);
        Check.due("dawn()", cote.dawn(), 3);
        int[] counts = {1, 0, 5, 0, 0, 0, 5};
        for (int what = 0; what < counts.length; what++) {
            Check.due("behind dawn: count(" + what + ")", cote.count(what), counts[what]);
        }
        Check.due("in their own", cote.count(11), 0);
        Check.due("in another one", cote.count(12), 3);
        Check.due("on the roof", cote.count(13), 1);
        Check.due("out", cote.count(14), 1);
        Check.due("absences of 4", cote.dove(4, 6), 1);
        Check.due("absences of 2, on the roof", cote.dove(2, 6), 0);
        Check.due("dawns of 1 in its own", cote.dove(1, 7), 0);
        Check.steps(cote, "behind dawn", 3, 0, 0, 1, 1, 2, 2, ROOF);
        cote.home(1, 5);
        Check.due("dawn()", cote.dawn(), 1);
        Check.due("in their own", cote.count(11), 1);
        Check.due("in another one", cote.count(12), 0);
        Check.due("on the roof", cote.count(13), 0);
        Check.due("out", cote.count(14), 4);
        Check.due("dawns of 1 in its own", cote.dove(1, 7), 1);
        Check.due("absences of 4", cote.dove(4, 6), 2);
        Check.due("the day", cote.count(0), 2);
        Check.due("saved states", cote.count(17), 6);
    }

    private static void stepRefused() {
        LateDoves cote = row();
        Check.refused(cote, IllegalArgumentException.class, "step(-1, 0)", () -> cote.step(-1, 0));
        Check.refused(cote, IllegalArgumentException.class, "step(min, 1)", () -> cote.step(Integer.MIN_VALUE, 1));
        Check.refused(cote, IllegalArgumentException.class, "step(0, -1)", () -> cote.step(0, -1));
        Check.refused(cote, IllegalArgumentException.class, "step(0, 2)", () -> cote.step(0, 2));
        Check.refused(cote, IllegalArgumentException.class, "step(99, 2)", () -> cote.step(99, 2));
        Check.due("step(max, 1)", cote.step(Integer.MAX_VALUE, 1), NONE);
        Check.due("step(25, 1)", cote.step(25, 1), NONE);
    }
}
