/** Boundary cases of the headings "Coming home", "Dawn" and of the promises 8, 9 and 21. */
public final class EdgesOfHomeTest {
    private static final int NONE = LateDoves.NONE;
    private static final int ROOF = LateDoves.ROOF;
    private static final String HOME = "Coming home";

    public static void main(String[] args) {
        timeAndDusk();
        ways();
        shifts();
        dawns();
        promises();
        Check.end();
    }

    private static void timeAndDusk() {
        Check.sentence(HOME, "Time is counted in minutes of a day, 0 to 1439; it begins with 0.",
            EdgesOfHomeTest::everyTime);
        Check.sentence(HOME, "A dove that comes home at dusk or earlier is in time, otherwise late.",
            EdgesOfHomeTest::dusk);
    }

    private static void ways() {
        Check.sentence(HOME, "A dove that is in time goes into its own hole, if that is open", EdgesOfHomeTest::inTime);
        Check.sentence(HOME, "the one that sits there, if any does, goes out of it and then looks for a hole as told "
            + "below, as one that is shifted.", EdgesOfHomeTest::guestOfOneInTime);
        Check.sentence(HOME, "If it is shut, it looks for a hole itself, as one that is late.",
            EdgesOfHomeTest::inTimeWithOwnHoleShut);
        Check.sentence(HOME, "A late dove first looks at the holes beside its mate, if that sits in a hole",
            EdgesOfHomeTest::whereTheMateIs);
        Check.sentence(HOME, "the one with the number 1 less, then the one with the number 1 more",
            EdgesOfHomeTest::besideTheMate);
        Check.sentence(HOME, "(beside the holes 0 and 23 there is one alone)", EdgesOfHomeTest::mateAtTheEnds);
        Check.sentence(HOME, "then at its own hole; then at all others, from the hole behind its own on, and around.",
            EdgesOfHomeTest::allAround);
        Check.sentence(HOME, "It goes into the first of these that is open and in which no one sits.",
            EdgesOfHomeTest::firstThatIsOpenAndFree);
    }

    private static void shifts() {
        Check.sentence(HOME, "If there is none, it goes into the hole beside its own (the one with the number 1 more, or 0 "
            + "behind 23), if that is open, and the dove there has a lower strength: that one is shifted.",
            EdgesOfHomeTest::everyHoleBeside);
        Check.sentence(HOME, "Otherwise it sits on the roof.", EdgesOfHomeTest::roof);
        Check.sentence(HOME, "A dove that is shifted looks in the same way as a late one.", EdgesOfHomeTest::shiftedOne);
        Check.sentence(HOME, "But in one coming home there are at most setting 1 shifts", EdgesOfHomeTest::everyLimit);
        Check.sentence(HOME, "a dove that would be shifted, when there were as many, is not, and the one that would shift it "
            + "sits on the roof instead", EdgesOfHomeTest::oneShiftTooMany);
        Check.sentence(HOME, "a dove in time goes into its own hole all the same, and the one there sits on the roof then, "
            + "without a shift (and without a step, as step() tells them).", EdgesOfHomeTest::inTimeWithoutShifts);
        Check.sentence(HOME, "Shifts are counted; a shift is a quarrel, if the two are not mates.",
            EdgesOfHomeTest::quarrels);
    }

    private static void dawns() {
        Check.sentence("Dawn", "At dawn each dove goes out, and the day is 1 more (from 0 on); the time is 0.",
            EdgesOfHomeTest::dawnOfAll);
        Check.sentence("Dawn", "Ahead of that it is counted: doves that sat in their own hole, in another one, on the roof, "
            + "and those that were out (who come home no more on this day: their absence is counted for each of them).",
            EdgesOfHomeTest::countedAtDawn);
        Check.sentence("Dawn", "The count of doves in holes is told by the doves, and a second time by the holes; both "
            + "agree.", EdgesOfHomeTest::bothCountsAgree);
    }

    private static void promises() {
        Check.sentence("Promise 8", "0 to 1439: the time is this then", EdgesOfHomeTest::timeIsThisThen);
        Check.sentence("Promise 8", "Returns how many shifts there are by it.", EdgesOfHomeTest::shiftsByIt);
        Check.sentence("Promise 9", "Returns how many doves sat in a hole.", EdgesOfHomeTest::satInAHole);
        Check.sentence("Promise 21", "Returns a step of the latest coming home (that home() or a part of a text brought).",
            EdgesOfHomeTest::latestComingHome);
        Check.sentence("Promise 21", "0 for the dove that came, 1 for the first one that was shifted, and so on",
            EdgesOfHomeTest::stepsOfTheLongestWay);
        Check.sentence("Promise 21", "where it came to sit by this: a hole, or ROOF", EdgesOfHomeTest::cameToSitByThis);
        Check.sentence("Promise 21", "Returns the number; NONE if there were not so many.",
            EdgesOfHomeTest::notSoManySteps);
    }

    // ---- time and dusk

    private static void everyTime() {
        Check.due("the time at first", new LateDoves().count(1), 0);
        for (int time : new int[] {0, 1, 1079, 1080, 1081, 1438, 1439}) {
            LateDoves cote = new LateDoves();
            cote.buy(7, 1);
            cote.home(0, time);
            Check.due("the time behind home at " + time, cote.count(1), time);
            Check.due("it sits", cote.dove(0, 2), 7);
        }
    }

    /** Dove 1 (hole 2), whose mate sits in hole 10: one in time sits in 2, a late one in 9. */
    private static void isLate(int dusk, int time, boolean late) {
        LateDoves cote = new LateDoves();
        cote.buy(10, 1);
        cote.buy(2, 1);
        cote.mate(0, 1);
        cote.home(0, 0);
        if (dusk != 1080) {
            cote.set(0, dusk);
        }
        String what = " at " + time + " with dusk at " + dusk;
        Check.due("ifHome" + what, cote.ifHome(1, time, 0), late ? 9 : 2);
        cote.home(1, time);
        Check.due("place" + what, cote.dove(1, 2), late ? 9 : 2);
        Check.due("how often behind dusk" + what, cote.dove(1, 4), late ? 1 : 0);
    }

    private static void dusk() {
        for (int dusk : new int[] {0, 1, 1079, 1080, 1081, 1438, 1439}) {
            for (int time = Math.max(0, dusk - 1); time <= Math.min(1439, dusk + 2); time++) {
                isLate(dusk, time, time > dusk);
            }
        }
        isLate(1080, 0, false);
        isLate(1080, 1439, true);
        isLate(0, 1439, true);
        isLate(1439, 0, false);
    }

    // ---- ways

    private static void inTime() {
        for (int own = 0; own < 24; own++) {
            LateDoves cote = new LateDoves();
            cote.buy(own, 1);
            Check.due("shifts", cote.home(0, 1080), 0);
            Check.due("in its own hole", cote.dove(0, 2), own);
            Check.due("and the hole tells so", cote.hole(own, 0), 0);
            Check.steps(cote, "own hole " + own, 0, own);
        }
    }

    /** Hole `own` alone is open; it is the own one of dove 1, that is out; dove 0 (strength 9) sits in it as a guest. */
    private static LateDoves guestIn(int own) {
        LateDoves cote = new LateDoves();
        cote.buy(own == 5 ? 6 : 5, 9);
        Check.shutAllBut(cote, own);
        cote.buy(own, 1);
        cote.home(0, 0);
        return cote;
    }

    private static void guestOfOneInTime() {
        for (int own = 0; own < 24; own++) {
            int free = own == 12 ? 13 : 12;
            LateDoves cote = guestIn(own);
            cote.open(free);
            Check.due("shifts, own hole " + own, cote.home(1, 1080), 1);
            Check.steps(cote, "own hole " + own, 1, own, 0, free);
            Check.due("the guest was shifted", cote.dove(0, 5), 1);
            Check.due("the one in time was not", cote.dove(1, 5), 0);
            Check.due("the hole is taken by its owner", cote.hole(own, 0), 1);
            Check.due("the guest's new hole", cote.hole(free, 0), 0);
            Check.due("a shifted one is not behind dusk", cote.dove(0, 4), 0);
        }
        LateDoves roof = guestIn(9);
        roof.home(1, 0);
        Check.steps(roof, "no hole is free", 1, 9, 0, ROOF);
        Check.due("doves in holes, by the holes", roof.count(4), 1);
    }

    private static void inTimeWithOwnHoleShut() {
        LateDoves cote = new LateDoves();
        cote.buy(23, 1);
        cote.shut(23);
        cote.home(0, 1080);
        Check.steps(cote, "around behind 23", 0, 0);
        Check.due("not behind dusk", cote.dove(0, 4), 0);

        LateDoves mates = new LateDoves();
        mates.buy(10, 1);
        mates.buy(2, 1);
        mates.mate(0, 1);
        mates.shut(2);
        mates.home(0, 0);
        mates.home(1, 0);
        Check.steps(mates, "beside its mate", 1, 9);

        LateDoves shifts = Cotes.oneOpen(0, 5);
        Cotes.buyShut(shifts, 23, 6);
        Check.due("it shifts as a late one", shifts.home(1, 1080), 1);
        Check.steps(shifts, "shifts", 1, 0, 0, ROOF);

        LateDoves all = new LateDoves();
        all.buy(0, 9);
        Check.shutAllBut(all);
        Check.due("all holes are shut", all.home(0, 0), 0);
        Check.steps(all, "all holes are shut", 0, ROOF);
    }

    private static void whereTheMateIs() {
        LateDoves cote = new LateDoves();
        cote.buy(10, 1);
        cote.buy(2, 1);
        Check.due("without a mate", cote.ifHome(1, 1439, 0), 2);
        cote.mate(0, 1);
        Check.due("the mate is out", cote.ifHome(1, 1439, 0), 2);
        cote.shut(10);
        cote.home(0, 0);
        Check.due("the mate sits in a hole that is not its own", cote.ifHome(1, 1439, 0), 12);
        cote.sell(0);
        Check.due("the mate was sold", cote.ifHome(1, 1439, 0), 2);

        LateDoves roof = Cotes.oneOpen(9, 9);
        Cotes.buyShut(roof, 23, 1);
        Cotes.buyShut(roof, 12, 1);
        roof.mate(1, 2);
        roof.home(1, 0);
        Check.due("the mate sits on the roof", roof.dove(1, 2), ROOF);
        roof.open(23);
        roof.open(0);
        roof.open(13);
        Check.due("beside a mate on the roof there is no hole", roof.ifHome(2, 1439, 0), 13);
    }

    private static void besideTheMate() {
        for (int place = 1; place < 23; place++) {
            LateDoves cote = new LateDoves();
            cote.buy(place, 1);
            cote.buy(place < 12 ? 20 : 3, 1);
            cote.mate(0, 1);
            cote.home(0, 0);
            Check.due("1 less than " + place, cote.ifHome(1, 1081, 0), place - 1);
            cote.shut(place - 1);
            Check.due("1 more than " + place, cote.ifHome(1, 1081, 0), place + 1);
            cote.shut(place + 1);
            Check.due("then its own", cote.ifHome(1, 1081, 0), place < 12 ? 20 : 3);
        }
    }

    private static void mateAtTheEnds() {
        LateDoves first = mateIn(0);
        Check.due("beside 0", first.ifHome(1, 1081, 0), 1);
        first.shut(1);
        Check.due("beside 0 there is not 23", first.ifHome(1, 1081, 0), 12);
        LateDoves last = mateIn(23);
        Check.due("beside 23", last.ifHome(1, 1081, 0), 22);
        last.shut(22);
        Check.due("beside 23 there is not 0", last.ifHome(1, 1081, 0), 12);
        LateDoves second = mateIn(1);
        Check.due("beside 1", second.ifHome(1, 1081, 0), 0);
        LateDoves lastButOne = mateIn(22);
        lastButOne.shut(21);
        Check.due("beside 22", lastButOne.ifHome(1, 1081, 0), 23);
    }

    /** Dove 0 sits in this hole, its mate 1 (hole 12) is out. */
    private static LateDoves mateIn(int hole) {
        LateDoves cote = new LateDoves();
        cote.buy(hole, 1);
        cote.buy(12, 1);
        cote.mate(0, 1);
        cote.home(0, 0);
        return cote;
    }

    /** The holes are shut one behind the other as a late dove looks at them; it goes into each of them first. */
    private static void allAround() {
        for (int own = 0; own < 24; own++) {
            LateDoves cote = new LateDoves();
            cote.buy(own, 9);
            for (int i = 0; i < 24; i++) {
                int hole = (own + i) % 24;
                Check.due("own hole " + own + ", " + i + " are shut", cote.ifHome(0, 1439, 0), hole);
                cote.shut(hole);
            }
            Check.due("own hole " + own + ", all are shut", cote.ifHome(0, 1439, 0), ROOF);
        }
    }

    /** Dove 0 has hole 10; the doves 1 to 15 sit in their own holes 11 to 23, 0 and 1. */
    private static void firstThatIsOpenAndFree() {
        LateDoves cote = new LateDoves();
        for (int dove = 0; dove < 16; dove++) {
            cote.buy((10 + dove) % 24, 1);
        }
        cote.set(0, 0);
        for (int dove = 15; dove > 0; dove--) {
            cote.home(dove, 1);
        }
        Check.due("its own is free", cote.ifHome(0, 1, 0), 10);
        cote.shut(10);
        Check.due("15 behind its own are taken", cote.ifHome(0, 1, 0), 2);
        cote.shut(2);
        cote.shut(3);
        Check.due("and 2 are shut", cote.ifHome(0, 1, 0), 4);
        for (int hole = 4; hole < 9; hole++) {
            cote.shut(hole);
        }
        Check.due("the last one is left", cote.ifHome(0, 1, 0), 9);
        cote.shut(9);
        Check.due("none is left", cote.ifHome(0, 1, 0), ROOF);
        cote.home(0, 1);
        cote.sell(7);
        cote.sell(0);
        Check.due("the place of one that was sold", cote.hole(17, 0), NONE);
        cote.open(10);
        cote.buy(10, 1);
        cote.shut(10);
        Check.due("is free", cote.ifHome(0, 1, 0), 17);
    }

    // ---- shifts

    /** The hole beside is the only open one, and a dove of strength 5 sits in it. */
    private static void everyHoleBeside() {
        for (int own = 0; own < 24; own++) {
            int beside = own == 23 ? 0 : own + 1;
            for (int strength = 4; strength <= 6; strength++) {
                LateDoves cote = Cotes.oneOpen(beside, 5);
                Cotes.buyShut(cote, own, strength);
                boolean shifts = strength > 5;
                String what = "own hole " + own + ", strength " + strength;
                Check.due("shifts, " + what, cote.home(1, 1439), shifts ? 1 : 0);
                Check.due("its place, " + what, cote.dove(1, 2), shifts ? beside : ROOF);
                Check.due("the other's place, " + what, cote.dove(0, 2), shifts ? ROOF : beside);
                Check.due("the other was shifted, " + what, cote.dove(0, 5), shifts ? 1 : 0);
            }
        }
    }

    private static void roof() {
        LateDoves shut = new LateDoves();
        shut.buy(0, 9);
        Check.shutAllBut(shut);
        shut.home(0, 1439);
        Check.due("all are shut", shut.dove(0, 2), ROOF);
        Check.due("on the roof", shut.count(5), 1);

        LateDoves less = Cotes.oneOpen(5, 1);
        Cotes.buyShut(less, 6, 9);
        less.home(1, 1439);
        Check.due("the hole with the number 1 less is not looked at", less.dove(1, 2), ROOF);

        LateDoves own = guestIn(9);
        own.home(1, 1081);
        Check.due("a late one does not shift out of its own", own.dove(1, 2), ROOF);
        Check.due("the guest sits there still", own.hole(9, 0), 0);

        LateDoves first = Cotes.oneOpen(0, 1);
        Cotes.buyShut(first, 22, 9);
        first.home(1, 1439);
        Check.due("0 is not beside 22", first.dove(1, 2), ROOF);
        LateDoves last = Cotes.oneOpen(23, 1);
        Cotes.buyShut(last, 0, 9);
        last.home(1, 1439);
        Check.due("23 is not beside 0 for a shift", last.dove(1, 2), ROOF);
        secondOnTheRoof(last);
    }

    private static void secondOnTheRoof(LateDoves cote) {
        Cotes.buyShut(cote, 10, 9);
        cote.home(2, 1439);
        Check.due("a second one on the roof", cote.dove(2, 2), ROOF);
        Check.due("on the roof", cote.count(5), 2);
        Check.due("by the holes", cote.count(4), 1);
    }

    private static void shiftedOne() {
        LateDoves mates = guestIn(9);
        mates.mate(0, 1);
        mates.open(8);
        mates.open(10);
        mates.open(5);
        mates.home(1, 0);
        Check.steps(mates, "beside its mate, who shifted it, not in its own", 1, 9, 0, 8);

        LateDoves own = guestIn(9);
        own.open(8);
        own.open(5);
        own.home(1, 0);
        Check.steps(own, "its own hole", 1, 9, 0, 5);

        LateDoves around = guestIn(9);
        around.open(4);
        around.home(1, 0);
        Check.steps(around, "the last hole of all", 1, 9, 0, 4);

        LateDoves back = Cotes.empty();
        back.buy(23, 9);
        Check.shutAllBut(back, 0);
        back.buy(0, 8);
        back.home(0, 0);
        Check.due("the one that shifted it is beside", back.home(1, 0), 2);
        Check.steps(back, "back again", 1, 0, 0, 0, 1, ROOF);
    }

    private static void everyLimit() {
        Check.due("the limit at first is 6", new LateDoves().count(16), 6);
        for (int limit = 0; limit <= 24; limit++) {
            LateDoves cote = Cotes.longRow(limit);
            int most = Math.min(limit, 9);
            Check.due("ifHome, at most " + limit, cote.ifHome(0, 6, 1), most);
            Check.due("home, at most " + limit, cote.home(0, 6), most);
            Check.due("shifts so far", cote.count(9), most);
            Check.due("quarrels so far", cote.count(10), most);
            Check.due("one sits on the roof", cote.count(5), 1);
            int roof = limit == 0 ? 1 : most;
            Check.due("who sits on the roof, at most " + limit, cote.dove(roof, 2), ROOF);
        }
    }

    private static void oneShiftTooMany() {
        for (int limit = 1; limit <= 8; limit++) {
            LateDoves cote = Cotes.longRow(limit);
            cote.home(0, 6);
            Check.due("the last one shifted, at most " + limit, cote.dove(limit, 5), 1);
            Check.due("the last one's place, at most " + limit, cote.dove(limit, 2), ROOF);
            Check.due("the next one is not shifted", cote.dove(limit + 1, 5), 0);
            Check.due("the next one sits where it sat", cote.dove(limit + 1, 2), limit);
            Check.due("the next one's hole", cote.hole(limit, 0), limit + 1);
            Check.due("the last step's dove", cote.step(limit, 0), limit);
            Check.due("the last step's place", cote.step(limit, 1), ROOF);
            Check.due("no step behind it", cote.step(limit + 1, 0), NONE);
        }
        LateDoves late = Cotes.oneOpen(0, 1);
        Cotes.buyShut(late, 23, 9);
        late.set(1, 0);
        Check.due("a late one, at most 0", late.home(1, 1439), 0);
        Check.steps(late, "a late one, at most 0", 1, ROOF);
        late.sell(1);
        Cotes.buyShut(late, 23, 9);
        late.set(1, 1);
        Check.due("a late one, at most 1", late.home(1, 1439), 1);
        Check.steps(late, "a late one, at most 1", 1, 0, 0, ROOF);
    }

    private static void inTimeWithoutShifts() {
        LateDoves cote = guestIn(9);
        cote.set(1, 0);
        cote.open(10);
        cote.mate(0, 1);
        Check.due("ifHome 0", cote.ifHome(1, 1080, 0), 9);
        Check.due("ifHome 1", cote.ifHome(1, 1080, 1), 0);
        Check.due("ifHome 2", cote.ifHome(1, 1080, 2), 1);
        Check.due("home at dusk", cote.home(1, 1080), 0);
        Check.steps(cote, "home at dusk", 1, 9);
        Check.due("the guest sits on the roof", cote.dove(0, 2), ROOF);
        Check.due("the guest was not shifted", cote.dove(0, 5), 0);
        Check.due("shifts", cote.count(9), 0);
        Check.due("quarrels", cote.count(10), 0);
        Check.due("in holes, by the holes", cote.count(4), 1);
        LateDoves one = guestIn(9);
        one.set(1, 1);
        Check.due("with one shift", one.home(1, 1080), 1);
        Check.steps(one, "with one shift", 1, 9, 0, ROOF);
    }

    private static void quarrels() {
        LateDoves cote = Cotes.longRow(24);
        cote.mate(0, 1);
        cote.mate(4, 5);
        cote.mate(9, 7);
        Check.due("shifts by it", cote.home(0, 6), 9);
        Check.due("shifts so far", cote.count(9), 9);
        Check.due("quarrels so far", cote.count(10), 7);
        cote.undo();
        Check.due("shifts ahead of it", cote.count(9), 0);
        Check.due("quarrels ahead of it", cote.count(10), 0);
        cote.home(0, 6);
        cote.dawn();
        for (int dove = 9; dove >= 0; dove--) {
            cote.home(dove, 5);
        }
        Check.due("shifts are counted on", cote.count(9), 18);
        Check.due("quarrels are counted on", cote.count(10), 14);
    }

    // ---- dawns

    private static void dawnOfAll() {
        LateDoves cote = Cotes.full();
        for (int day = 0; day < 3; day++) {
            Check.due("the day", cote.count(0), day);
            cote.dawn();
            Check.due("the time", cote.count(1), 0);
            Check.due("doves that are out", cote.count(6), 16);
        }
        for (int dove = 0; dove < 16; dove++) {
            Check.due("dove " + dove + " is out", cote.dove(dove, 2), NONE);
        }
        for (int hole = 0; hole < 24; hole++) {
            Check.due("no one sits in " + hole, cote.hole(hole, 0), NONE);
        }
        LateDoves roof = Cotes.few();
        roof.dawn();
        Check.due("the one on the roof goes out", roof.dove(5, 2), NONE);
        Check.due("the one of hole 0 too", roof.dove(0, 2), NONE);
        Check.due("the one of hole 23 too", roof.dove(2, 2), NONE);
        Check.due("it can come home again", roof.whyNot(5, 0), 0);
    }

    private static void countedAtDawn() {
        LateDoves empty = new LateDoves();
        empty.dawn();
        atDawn(empty, 0, 0, 0, 0);
        LateDoves full = Cotes.full();
        full.dawn();
        atDawn(full, 16, 0, 0, 0);
        full.dawn();
        atDawn(full, 0, 0, 0, 16);
        for (int dove = 0; dove < 16; dove++) {
            Check.due("dawns of " + dove + " in its own hole", full.dove(dove, 7), 1);
            Check.due("absences of " + dove, full.dove(dove, 6), 1);
        }
        LateDoves row = Cotes.longRow(24);
        row.home(0, 6);
        row.dawn();
        atDawn(row, 1, 8, 1, 0);
        Check.due("own hole: absences", row.dove(0, 6), 0);
        Check.due("another hole: absences", row.dove(4, 6), 0);
        Check.due("another hole: dawns in its own", row.dove(4, 7), 0);
        Check.due("roof: absences", row.dove(9, 6), 0);
        Check.due("roof: dawns in its own", row.dove(9, 7), 0);
        LateDoves few = Cotes.few();
        few.dawn();
        atDawn(few, 3, 0, 1, 1);
        few.home(1, 0);
        few.dawn();
        atDawn(few, 1, 0, 0, 4);
    }

    private static void atDawn(LateDoves cote, int own, int another, int roof, int out) {
        Check.due("in their own hole", cote.count(11), own);
        Check.due("in another one", cote.count(12), another);
        Check.due("on the roof", cote.count(13), roof);
        Check.due("out", cote.count(14), out);
    }

    private static void agree(LateDoves cote, int want) {
        Check.due("by the doves", cote.count(3), want);
        Check.due("by the holes", cote.count(4), want);
    }

    private static void bothCountsAgree() {
        agree(Cotes.empty(), 0);
        LateDoves full = Cotes.full();
        agree(full, 16);
        full.sell(0);
        agree(full, 15);
        full.sell(15);
        agree(full, 14);
        full.undo();
        agree(full, 15);
        full.dawn();
        agree(full, 0);
        full.home(14, 0);
        agree(full, 1);
        LateDoves row = Cotes.longRow(3);
        agree(row, 9);
        row.home(0, 6);
        agree(row, 9);
        LateDoves few = Cotes.few();
        agree(few, 3);
        few.home(1, 1081);
        agree(few, 4);
        few.restore();
        agree(few, 3);
    }

    // ---- promises

    private static void timeIsThisThen() {
        LateDoves cote = new LateDoves();
        cote.buy(0, 1);
        cote.buy(1, 1);
        cote.buy(2, 1);
        cote.home(0, 0);
        Check.due("the first minute", cote.count(1), 0);
        cote.home(1, 1439);
        Check.due("the last minute", cote.count(1), 1439);
        cote.home(2, 1439);
        Check.due("the last minute again", cote.count(1), 1439);
        cote.dawn();
        cote.home(2, 0);
        Check.due("behind dawn", cote.count(1), 0);
        LateDoves roof = new LateDoves();
        roof.buy(0, 1);
        Check.shutAllBut(roof);
        roof.home(0, 7);
        Check.due("also on the roof", roof.count(1), 7);
    }

    private static void shiftsByIt() {
        LateDoves cote = Cotes.longRow(24);
        Check.due("the most", cote.home(0, 6), 9);
        cote.dawn();
        Check.due("none", cote.home(9, 0), 0);
        Check.due("none, also behind dusk", cote.home(8, 1439), 0);
        LateDoves two = Cotes.oneOpen(0, 1);
        Cotes.buyShut(two, 23, 2);
        Cotes.buyShut(two, 22, 3);
        Check.due("one", two.home(1, 1439), 1);
        Check.due("none of those before", two.home(2, 1439), 0);
    }

    private static void satInAHole() {
        Check.due("an empty dovecote", new LateDoves().dawn(), 0);
        LateDoves full = Cotes.full();
        Check.due("a full one", full.dawn(), 16);
        Check.due("all are out", full.dawn(), 0);
        LateDoves row = Cotes.longRow(24);
        row.home(0, 6);
        Check.due("the roof is no hole, another one's is", row.dawn(), 9);
    }

    private static void latestComingHome() {
        LateDoves cote = Cotes.longRow(24);
        cote.home(0, 6);
        Check.due("steps of home()", cote.step(9, 0), 9);
        cote.dawn();
        Check.due("they stay behind dawn()", cote.step(9, 0), 9);
        Check.pass(cote, "h2@1;h3@2;^");
        Check.steps(cote, "a part of a text", 3, 2);
        Check.pass(cote, "^;o23;h4@0;h4@1");
        Check.steps(cote, "the latest part that happened", 4, 3);
        cote.ifHome(5, 9, 0);
        cote.lateIsAsGood();
        Check.steps(cote, "what would be is no coming home", 4, 3);
        cote.undo();
        Check.steps(cote, "undo()", 3, 2);
    }

    private static void stepsOfTheLongestWay() {
        LateDoves cote = Cotes.longRow(9);
        cote.home(0, 6);
        Check.steps(cote, "the longest way", 0, 20, 1, 1, 2, 2, 3, 3, 4, 4, 5, 5, 6, 6, 7, 7, 8, 8, 9, ROOF);
        cote.dawn();
        cote.home(9, 0);
        Check.steps(cote, "a short one behind it", 9, 8);
    }

    private static void cameToSitByThis() {
        LateDoves cote = Cotes.empty();
        cote.buy(23, 9);
        Check.shutAllBut(cote, 0);
        cote.buy(0, 8);
        cote.home(0, 0);
        Check.steps(cote, "hole 0", 0, 0);
        cote.home(1, 0);
        Check.due("dove 1 came to hole 0 by its coming", cote.step(0, 1), 0);
        Check.due("dove 0 came to hole 0 by its shift", cote.step(1, 1), 0);
        Check.due("dove 1 came to the roof by its shift", cote.step(2, 1), ROOF);
        Check.due("where it is now", cote.dove(1, 2), ROOF);
        LateDoves last = Cotes.full();
        Check.steps(last, "hole 23", 15, 23);
    }

    private static void notSoManySteps() {
        Check.steps(new LateDoves(), "without a coming home");
        LateDoves cote = Cotes.longRow(24);
        cote.home(0, 6);
        for (int what = 0; what <= 1; what++) {
            Check.due("the last step", cote.step(9, what) == NONE ? 0 : 1, 1);
            Check.due("the step behind it", cote.step(10, what), NONE);
            Check.due("step 24", cote.step(24, what), NONE);
            Check.due("step 25", cote.step(25, what), NONE);
            Check.due("step 26", cote.step(26, what), NONE);
            Check.due("the greatest number", cote.step(Integer.MAX_VALUE, what), NONE);
        }
    }
}
