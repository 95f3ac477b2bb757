/** Boundary cases of the promises 18 to 20 and 22 to 27. */
public final class EdgesOfLooksTest {
    private static final int NONE = LateDoves.NONE;
    private static final int ROOF = LateDoves.ROOF;

    public static void main(String[] args) {
        Check.sentence("What it is", "An object is used for at most 512 calls after it has been made",
            EdgesOfLooksTest::lastCalls);
        looks();
        whatWouldBe();
        Check.sentence("Promise 27", "Computes a hash of the whole state.", EdgesOfLooksTest::wholeState);
        Check.sentence("Promise 27", "The hash starts at 3889. For each value v of the following list, in order, the hash "
            + "becomes 31 * hash + v, in long arithmetic with overflow.", EdgesOfLooksTest::hashOfANewObject);
        Check.sentence("Promise 27", "the length of the buffer and each of its character codes",
            EdgesOfLooksTest::hashOfABuffer);
        Check.end();
    }

    private static void looks() {
        Check.sentence("Promise 18", "2: the hole in which it sits, ROOF for the roof, NONE if it is out",
            EdgesOfLooksTest::placesOfDoves);
        Check.sentence("Promise 18", "3: its mate, NONE without one", EdgesOfLooksTest::matesOfDoves);
        Check.sentence("Promise 18", "4: how often it came home behind dusk so far; 5: how often it was shifted so far; 6: "
            + "absences so far; 7: dawns at which it sat in its own hole so far", EdgesOfLooksTest::soFar);
        Check.sentence("Promise 19", "`hole`: 0 to 23", EdgesOfLooksTest::everyHole);
        Check.sentence("Promise 19", "0: the dove that sits in it, NONE without one; 1: the dove whose own it is, NONE "
            + "without one; 2: 1 if it is open, otherwise 0", EdgesOfLooksTest::everyHole);
        Check.sentence("Promise 20", "11: doves that sat in their own hole at the latest dawn; 12: in another one; 13: on "
            + "the roof; 14: that were out (11 to 14: 0 ahead of the first dawn)", EdgesOfLooksTest::aheadOfTheFirstDawn);
        Check.sentence("Promise 20", "17: saved states", EdgesOfLooksTest::countOfSavedStates);
        Check.sentence("Promise 20", "9: shifts so far; 10: quarrels so far", EdgesOfLooksTest::mostShifts);
        Check.sentence("Promise 20", "15 and 16: the settings 0 and 1", EdgesOfLooksTest::countOfSettings);
        Check.sentence("Promise 20", "2: doves; 3: doves in holes, told by the doves; 4: the same, told by the holes; 5: "
            + "doves on the roof; 6: doves that are out; 7: open holes; 8: pairs of mates", EdgesOfLooksTest::emptyAndFull);
    }

    private static void whatWouldBe() {
        Check.sentence("Promise 22", "`time`: 0 to 1439", EdgesOfLooksTest::timesOfWhyNot);
        Check.sentence("Promise 22", "Returns the reason, 1 or 2; 0 if it can.", EdgesOfLooksTest::whyNot);
        Check.sentence("Promise 23", "`time`: 0 to 1439", EdgesOfLooksTest::timesOfIfHome);
        Check.sentence("Promise 23", "0: where it would sit: a hole, or ROOF; 1: shifts; 2: doves more on the roof",
            EdgesOfLooksTest::ifHome);
        Check.sentence("Promise 23", "Returns the number; NONE if it cannot come home.", EdgesOfLooksTest::ifHomeCannot);
        Check.sentence("Promise 24", "Returns the lowest open hole that is no dove's own; NONE if there is none.",
            EdgesOfLooksTest::freeHole);
        Check.sentence("Promise 25", "Returns 0 if fewer doves would sit in holes, when all doves that are out came home by "
            + "their numbers, each at the time 1439 (whatever dusk is), than if they came by their numbers at the time of "
            + "now; 1 if as many would, or more.", EdgesOfLooksTest::lateIsAsGood);
        Check.sentence("Promise 26", "Returns the doves in their own holes, as a double, divided by all doves; 1.0 without "
            + "doves.", EdgesOfLooksTest::homeShare);
    }

    /** The last call of an object answers as the first one does. */
    private static void lastCalls() {
        LateDoves days = new LateDoves();
        for (int call = 1; call <= 511; call++) {
            days.dawn();
        }
        Check.due("the day behind 511 dawns", days.count(0), 511);
        LateDoves asked = new LateDoves();
        for (int call = 1; call <= 511; call++) {
            asked.digest();
        }
        Check.due("the 512th digest()", asked.digest(), new LateDoves().digest());
        LateDoves passes = new LateDoves();
        for (int call = 1; call <= 508; call += 4) {
            passes.append('x');
            passes.append('1');
            passes.pass();
            passes.undo();
        }
        Check.due("the 509th call", passes.append('x'), 1);
        Check.due("the 510th call", passes.append('1'), 2);
        Check.due("the 511th call", passes.pass(), 1);
        Check.due("the 512th call", passes.undo(), 0);
    }

    // ---- looks

    private static void placesOfDoves() {
        LateDoves cote = Cotes.few();
        Check.due("the first hole", cote.dove(0, 2), 0);
        Check.due("the last hole", cote.dove(2, 2), 23);
        Check.due("the roof", cote.dove(5, 2), 24);
        Check.due("out", cote.dove(1, 2), -1);
        Check.due("the constant ROOF", ROOF, 24);
        Check.due("the constant NONE", NONE, -1);
    }

    private static void matesOfDoves() {
        LateDoves cote = Cotes.full();
        Check.due("without one", cote.dove(15, 3), NONE);
        cote.mate(0, 15);
        Check.due("the first dove", cote.dove(15, 3), 0);
        Check.due("the last dove", cote.dove(0, 3), 15);
    }

    private static void soFar() {
        LateDoves cote = Cotes.longRow(24);
        for (int night = 1; night <= 3; night++) {
            cote.home(0, 6);
            Check.doveIs(cote, 0, 20, 1, 20, NONE, 0, 0, 0, night - 1);
            Check.doveIs(cote, 1, 0, 9, 1, NONE, 0, night, 0, 0);
            Check.doveIs(cote, 9, 8, 1, ROOF, NONE, 0, night, 0, 0);
            cote.dawn();
            Check.doveIs(cote, 0, 20, 1, NONE, NONE, 0, 0, 0, night);
            for (int dove = 9; dove > 0; dove--) {
                cote.home(dove, 5);
            }
        }
        LateDoves late = new LateDoves();
        late.buy(23, 1);
        for (int night = 1; night <= 3; night++) {
            late.home(0, 1081);
            Check.doveIs(late, 0, 23, 1, 23, NONE, night, 0, night - 1, night - 1);
            late.dawn();
            late.dawn();
            Check.doveIs(late, 0, 23, 1, NONE, NONE, night, 0, night, night);
        }
    }

    private static void everyHole() {
        LateDoves cote = Cotes.full();
        for (int hole = 0; hole < 24; hole++) {
            int dove = hole < 8 ? NONE : hole - 8;
            Check.due("who sits in " + hole, cote.hole(hole, 0), dove);
            Check.due("whose own is " + hole, cote.hole(hole, 1), dove);
            Check.due("hole " + hole + " is open", cote.hole(hole, 2), 1);
        }
        cote.dawn();
        cote.shut(23);
        cote.home(15, 0);
        Check.due("the guest in 0", cote.hole(0, 0), 15);
        Check.due("0 is no one's own", cote.hole(0, 1), NONE);
        Check.due("no one sits in 23", cote.hole(23, 0), NONE);
        Check.due("23 is its own", cote.hole(23, 1), 15);
        Check.due("23 is shut", cote.hole(23, 2), 0);
    }

    private static void aheadOfTheFirstDawn() {
        for (LateDoves cote : new LateDoves[] {new LateDoves(), Cotes.full(), Cotes.few()}) {
            for (int what = 11; what <= 14; what++) {
                Check.due("count(" + what + ")", cote.count(what), 0);
            }
        }
        LateDoves cote = Cotes.few();
        cote.dawn();
        cote.sell(0);
        cote.home(1, 5);
        int[] want = {3, 0, 1, 1};
        for (int what = 11; what <= 14; what++) {
            Check.due("behind a dawn, count(" + what + ")", cote.count(what), want[what - 11]);
        }
        cote.undo();
        cote.undo();
        cote.undo();
        for (int what = 11; what <= 14; what++) {
            Check.due("behind undo(), count(" + what + ")", cote.count(what), 0);
        }
    }

    private static void countOfSavedStates() {
        Check.due("none", new LateDoves().count(17), 0);
        Check.due("five", Cotes.few().count(17), 5);
        Check.due("six", Cotes.many().count(17), 6);
    }

    private static void mostShifts() {
        LateDoves cote = Cotes.longRow(24);
        cote.mate(3, 2);
        Check.due("no shift", cote.count(9), 0);
        Check.due("no quarrel", cote.count(10), 0);
        cote.home(0, 6);
        Check.due("the most shifts", cote.count(9), 9);
        Check.due("all but one are quarrels", cote.count(10), 8);
        cote.dawn();
        Check.due("they stay behind dawn", cote.count(9), 9);
        Check.due("the quarrels too", cote.count(10), 8);
        cote.sell(2);
        Check.due("and behind a sale", cote.count(9), 9);
    }

    private static void countOfSettings() {
        LateDoves cote = new LateDoves();
        cote.set(0, 0);
        cote.set(1, 24);
        Check.due("the least dusk", cote.count(15), 0);
        Check.due("the greatest limit", cote.count(16), 24);
        cote.set(0, 1439);
        cote.set(1, 0);
        Check.due("the greatest dusk", cote.count(15), 1439);
        Check.due("the least limit", cote.count(16), 0);
        cote.dawn();
        Check.due("it stays behind dawn", cote.count(15), 1439);
    }

    private static void emptyAndFull() {
        counts(new LateDoves(), 0, 0, 0, 0, 0, 24, 0);
        LateDoves full = Cotes.full();
        counts(full, 16, 16, 16, 0, 0, 24, 0);
        full.mate(14, 15);
        full.dawn();
        counts(full, 16, 0, 0, 0, 16, 24, 1);
        Check.shutAllBut(full);
        counts(full, 16, 0, 0, 0, 16, 0, 1);
        LateDoves roofs = shutOut();
        counts(roofs, 16, 0, 0, 16, 0, 0, 0);
        for (int dove = 0; dove < 16; dove++) {
            roofs.sell(dove);
        }
        counts(roofs, 0, 0, 0, 0, 0, 0, 0);
    }

    /** All holes are shut, and all 16 doves sit on the roof. */
    private static LateDoves shutOut() {
        LateDoves cote = Cotes.full();
        cote.dawn();
        Check.shutAllBut(cote);
        for (int dove = 0; dove < 16; dove++) {
            cote.home(dove, 0);
        }
        return cote;
    }

    private static void counts(LateDoves cote, int... want) {
        for (int i = 0; i < want.length; i++) {
            Check.due("count(" + (2 + i) + ")", cote.count(2 + i), want[i]);
        }
    }

    // ---- what would be

    private static LateDoves last() {
        LateDoves cote = new LateDoves();
        cote.buy(23, 1);
        return cote;
    }

    private static void timesOfWhyNot() {
        LateDoves cote = last();
        Check.due("the first minute", cote.whyNot(0, 0), 0);
        Check.due("the last minute", cote.whyNot(0, 1439), 0);
        Check.refused(cote, IllegalArgumentException.class, "whyNot(0, -1)", () -> cote.whyNot(0, -1));
        Check.refused(cote, IllegalArgumentException.class, "whyNot(0, 1440)", () -> cote.whyNot(0, 1440));
    }

    private static void timesOfIfHome() {
        LateDoves cote = last();
        Check.due("the first minute", cote.ifHome(0, 0, 0), 23);
        Check.due("the last minute", cote.ifHome(0, 1439, 0), 23);
        Check.refused(cote, IllegalArgumentException.class, "ifHome(0, -1, 0)", () -> cote.ifHome(0, -1, 0));
        Check.refused(cote, IllegalArgumentException.class, "ifHome(0, 1440, 0)", () -> cote.ifHome(0, 1440, 0));
    }

    private static void whyNot() {
        LateDoves cote = Cotes.few();
        Check.due("it sits in a hole", cote.whyNot(0, 1000), 1);
        Check.due("it sits on the roof", cote.whyNot(5, 1439), 1);
        Check.due("it sits, and the time is gone", cote.whyNot(0, 0), 1);
        Check.due("a minute ahead of now", cote.whyNot(1, 999), 2);
        Check.due("the first minute", cote.whyNot(1, 0), 2);
        Check.due("now", cote.whyNot(1, 1000), 0);
        Check.due("the last minute", cote.whyNot(1, 1439), 0);
        cote.dawn();
        Check.due("the first minute behind dawn", cote.whyNot(1, 0), 0);
        LateDoves full = Cotes.full();
        Check.due("the last dove", full.whyNot(15, 1439), 1);
    }

    private static void would(LateDoves cote, int dove, int time, int place, int shifts, int more) {
        String what = "ifHome(" + dove + ", " + time + ", ";
        long before = cote.digest();
        Check.due(what + "0)", cote.ifHome(dove, time, 0), place);
        Check.due(what + "1)", cote.ifHome(dove, time, 1), shifts);
        Check.due(what + "2)", cote.ifHome(dove, time, 2), more);
        Check.due("digest() behind it", cote.digest(), before);
    }

    private static void ifHome() {
        LateDoves holes = new LateDoves();
        holes.buy(0, 1);
        holes.buy(23, 1);
        would(holes, 0, 0, 0, 0, 0);
        would(holes, 1, 1439, 23, 0, 0);
        LateDoves longest = Cotes.longRow(24);
        would(longest, 0, 1080, 20, 9, 1);
        would(longest, 0, 1081, ROOF, 0, 1);
        LateDoves none = Cotes.longRow(0);
        would(none, 0, 1080, 20, 0, 1);
        LateDoves roofs = shutOut();
        roofs.sell(15);
        roofs.open(23);
        roofs.buy(23, 9);
        roofs.open(22);
        would(roofs, 15, 0, 23, 0, 0);
        roofs.shut(23);
        would(roofs, 15, 1439, 22, 0, 0);
        roofs.shut(22);
        would(roofs, 15, 1439, ROOF, 0, 1);
    }

    private static void ifHomeCannot() {
        LateDoves cote = Cotes.few();
        would(cote, 0, 1439, NONE, NONE, NONE);
        would(cote, 5, 1439, NONE, NONE, NONE);
        would(cote, 1, 999, NONE, NONE, NONE);
        would(cote, 1, 0, NONE, NONE, NONE);
        would(cote, 1, 1000, 1, 0, 0);
        LateDoves full = Cotes.full();
        would(full, 15, 1439, NONE, NONE, NONE);
    }

    private static void freeHole() {
        LateDoves cote = new LateDoves();
        for (int hole = 0; hole < 24; hole++) {
            Check.due("the lowest one", cote.freeHole(), hole);
            if (hole < 8) {
                cote.shut(hole);
            } else {
                cote.buy(hole, 1);
            }
        }
        Check.due("none", cote.freeHole(), NONE);
        cote.sell(15);
        Check.due("the last hole", cote.freeHole(), 23);
        cote.shut(23);
        Check.due("none again", cote.freeHole(), NONE);
        cote.open(0);
        Check.due("the first hole", cote.freeHole(), 0);
        Check.due("a full dovecote", Cotes.full().freeHole(), 0);
        cote.shut(0);
        cote.open(23);
        cote.home(0, 0);
        cote.shut(9);
        cote.home(1, 0);
        Check.due("its own hole is not free, though it is out of it", cote.freeHole(), 23);
    }

    private static void lateIsAsGood() {
        asGood("a new object", new LateDoves());
        asGood("a full dovecote, all at home", Cotes.full());
        LateDoves out = Cotes.full();
        out.dawn();
        asGood("a full dovecote, all out", out);
        asGood("all on the roof", shutOut());
        asGood("one would shift nine", Cotes.longRow(24));
        asGood("one would send another one to the roof", Cotes.longRow(0));
        for (int dusk = 1438; dusk <= 1439; dusk++) {
            LateDoves cote = Cotes.longRow(0);
            cote.open(21);
            cote.set(0, dusk);
            asGood("a late one would find a hole, dusk at " + dusk, cote);
        }
        LateDoves last = new LateDoves();
        last.buy(0, 1);
        last.buy(1, 1);
        last.home(0, 1439);
        asGood("now is the last minute", last);
    }

    /** A late one goes into a free hole if there is any, so never do fewer sit than if they came now. */
    private static void asGood(String what, LateDoves cote) {
        long before = cote.digest();
        Check.due("lateIsAsGood(), " + what, cote.lateIsAsGood(), 1);
        Check.due("digest() behind it", cote.digest(), before);
    }

    private static void homeShare() {
        Check.dueDouble("without doves", new LateDoves().homeShare(), 1.0);
        LateDoves cote = Cotes.full();
        Check.dueDouble("all", cote.homeShare(), 1.0);
        cote.dawn();
        Check.dueDouble("none of sixteen", cote.homeShare(), 0.0);
        cote.home(15, 0);
        Check.dueDouble("one of sixteen", cote.homeShare(), 1.0 / 16.0);
        for (int dove = 0; dove < 15; dove++) {
            cote.sell(dove);
        }
        Check.dueDouble("one of one", cote.homeShare(), 1.0);
        cote.sell(15);
        Check.dueDouble("all are sold", cote.homeShare(), 1.0);
        Check.dueDouble("all on the roof", shutOut().homeShare(), 0.0);
        Check.dueDouble("two of five, one is on the roof, one is out", twoOfFive().homeShare(), 2.0 / 5.0);
    }

    private static LateDoves twoOfFive() {
        LateDoves cote = Cotes.few();
        cote.dawn();
        cote.shut(23);
        cote.home(0, 1);
        cote.home(4, 1);
        cote.home(2, 1);
        Check.due("a guest", cote.dove(2, 2), 1);
        return cote;
    }

    // ---- digest

    private static void wholeState() {
        LateDoves last = new LateDoves();
        last.buy(0, 1);
        last.buy(23, 1);
        last.home(0, 1439);
        LateDoves gone = new LateDoves();
        gone.buy(0, 1);
        gone.buy(23, 1);
        gone.home(0, 1438);
        Check.due("the last minute: dove 1 can come home", last.ifHome(1, 1439, 0), 23);
        Check.due("differs from a minute ahead", last.digest() == gone.digest() ? 1 : 0, 0);
        LateDoves twin = Cotes.full();
        long before = twin.digest();
        Check.due("the same past, the same hash", before, Cotes.full().digest());
        Check.due("asked again", twin.digest(), before);
    }

    private static void hashOfANewObject() {
        Check.due("a new object", new LateDoves().digest(), 31 * ofANewObject());
        Check.due("the hash overflows", ofANewObject() < 0 || new LateDoves().digest() < 0 ? 1 : 0, 1);
    }

    private static void hashOfABuffer() {
        LateDoves cote = new LateDoves();
        for (int length = 0; length <= 60; length++) {
            long hash = 31 * ofANewObject() + length;
            for (int i = 0; i < length; i++) {
                hash = 31 * hash + 126 - i;
            }
            Check.due("with " + length + " characters", cote.digest(), hash);
            if (length < 60) {
                cote.append(126 - length);
            }
        }
        cote.clearBuffer();
        Check.due("cleared", cote.digest(), 31 * ofANewObject());
    }

    /** Up to the bits of homeShare; the buffer's length comes next. */
    private static long ofANewObject() {
        long hash = 3889;
        int[] counts = {0, 0, 0, 0, 0, 0, 0, 24, 0, 0, 0, 0, 0, 0, 0, 1080, 6, 0};
        for (int count : counts) {
            hash = 31 * hash + count;
        }
        for (int hole = 0; hole < 24; hole++) {
            hash = 31 * hash - 1;
            hash = 31 * hash - 1;
            hash = 31 * hash + 1;
        }
        hash = 31 * hash - 1;
        hash = 31 * hash - 1;
        hash = 31 * hash;
        hash = 31 * hash + 1;
        return 31 * hash + 0x3ff0000000000000L;
    }
}
