import java.util.function.Supplier;

/** Boundary cases of the headings "Holes, doves", "Reasons", "Settings" and of the promises 1 to 7. */
public final class EdgesOfHolesTest {
    private static final int NONE = LateDoves.NONE;
    private static final int ROOF = LateDoves.ROOF;
    private static final int REFUSED = -99;

    public static void main(String[] args) {
        holesAndDoves();
        reasons();
        Check.sentence("Settings", "0: dusk, 0 to 1439, at first 1080; 1: 0 to 24, at first 6.",
            EdgesOfHolesTest::settings);
        promises();
        Check.end();
    }

    private static void holesAndDoves() {
        String heading = "Holes, doves";
        Check.sentence(heading, "There are 24 holes in a row, numbered from 0; each is open (at first) or shut.",
            EdgesOfHolesTest::everyHole);
        Check.sentence(heading, "There are at most 16 doves", EdgesOfHolesTest::sixteenDoves);
        Check.sentence(heading, "they have numbers, 0 to 15, by which they were bought, from 0 on",
            EdgesOfHolesTest::numbersOfDoves);
        Check.sentence(heading, "a number of a dove that was sold is given again, the lowest free one first",
            EdgesOfHolesTest::numbersGivenAgain);
        Check.sentence(heading, "A dove has an own hole, that no other dove has", EdgesOfHolesTest::ownHoles);
        Check.sentence(heading, "a strength, 1 to 9", EdgesOfHolesTest::strengths);
        Check.sentence(heading, "A dove sits in a hole, on the roof, or is out.", EdgesOfHolesTest::threePlaces);
        Check.sentence(heading, "a dove has at most one mate", EdgesOfHolesTest::oneMate);
    }

    private static void reasons() {
        Check.sentence("Reasons", "A dove cannot come home for the first of these reasons: 1: it is not out; 2: the time "
            + "would be less than now.", EdgesOfHolesTest::reasonsNotHome);
        Check.sentence("Reasons", "A hole cannot be shut: 3: a dove sits in it; 4: it is shut.",
            EdgesOfHolesTest::reasonsNotToShut);
        Check.sentence("Reasons", "A dove cannot be bought: 5: there are 16; 6: its hole is another one's own; 7: its hole "
            + "is shut.", EdgesOfHolesTest::reasonsNotToBuy);
        Check.sentence("Reasons", "Two doves cannot be mates: 8: they are one and the same; 9: one has a mate.",
            EdgesOfHolesTest::reasonsNotToPair);
    }

    private static void promises() {
        Check.sentence("Promise 1", "Creates an empty dovecote, without a snapshot, with an empty buffer.",
            EdgesOfHolesTest::newObject);
        Check.sentence("Promise 2", "0 to 23: its own hole", EdgesOfHolesTest::ownHoles);
        Check.sentence("Promise 2", "`strength`: 1 to 9", EdgesOfHolesTest::strengths);
        Check.sentence("Promise 2", "Returns its number.", EdgesOfHolesTest::numbersGivenAgain);
        Check.sentence("Promise 2", "Buys a dove, that is out.", EdgesOfHolesTest::boughtOut);
        Check.sentence("Promise 3", "Sells a dove; its mate has none then.", EdgesOfHolesTest::mateOfASoldOne);
        Check.sentence("Promise 3", "Returns the hole in which it sat, ROOF for the roof, NONE if it was out.",
            EdgesOfHolesTest::placesOfSoldOnes);
        Check.sentence("Promise 4", "Returns how many pairs of mates there are then.", EdgesOfHolesTest::eightPairs);
        Check.sentence("Promise 5", "`hole`: 0 to 23", EdgesOfHolesTest::shutEach);
        Check.sentence("Promise 6", "`hole`: 0 to 23", EdgesOfHolesTest::openEach);
        Check.sentence("Promise 7", "`setting`: 0 or 1", EdgesOfHolesTest::eachSetting);
        Check.sentence("Promise 5", "Returns how many holes are open then.", EdgesOfHolesTest::shutAll);
        Check.sentence("Promise 6", "Opens a hole (also one that is open).", EdgesOfHolesTest::openOpenOnes);
        Check.sentence("Promise 6", "Returns how many holes are open then.", EdgesOfHolesTest::openAll);
        Check.sentence("Promise 7", "Returns the previous value.", EdgesOfHolesTest::previousValues);
    }

    // ---- holes, doves

    private static int orRefused(Check.Call call) {
        try {
            return (int) call.run();
        } catch (RuntimeException e) {
            return REFUSED;
        }
    }

    private static void everyHole() {
        LateDoves cote = new LateDoves();
        for (int hole = 0; hole < 24; hole++) {
            int it = hole;
            Check.due("hole " + hole + " is open", cote.hole(hole, 2), 1);
            Check.due("shut(" + hole + ")", orRefused(() -> cote.shut(it)), 23);
            Check.due("hole " + hole + " is shut", cote.hole(hole, 2), 0);
            Check.due("open(" + hole + ")", orRefused(() -> cote.open(it)), 24);
            Check.due("hole " + hole + " is open again", cote.hole(hole, 2), 1);
        }
        Check.due("a hole below the first", orRefused(() -> cote.hole(-1, 2)), REFUSED);
        Check.due("a hole above the last", orRefused(() -> cote.hole(24, 2)), REFUSED);
    }

    private static void sixteenDoves() {
        LateDoves cote = new LateDoves();
        for (int dove = 0; dove < 16; dove++) {
            Check.due("doves", cote.count(2), dove);
            cote.buy(dove, 1);
        }
        Check.due("doves", cote.count(2), 16);
        Check.due("a 17th dove", orRefused(() -> cote.buy(16, 1)), REFUSED);
        Check.due("doves", cote.count(2), 16);
        cote.sell(8);
        Check.due("a 16th dove", orRefused(() -> cote.buy(16, 1)), 8);
        Check.due("a 17th dove again", orRefused(() -> cote.buy(17, 1)), REFUSED);
    }

    private static void numbersOfDoves() {
        LateDoves cote = new LateDoves();
        for (int dove = 0; dove < 16; dove++) {
            int it = dove;
            Check.due("the number ahead of its buy", orRefused(() -> cote.dove(it, 0)), REFUSED);
            Check.due("its number", cote.buy(23 - dove, 1), dove);
            Check.due("its own hole", cote.dove(dove, 0), 23 - dove);
        }
        Check.due("a dove below the first", orRefused(() -> cote.dove(-1, 0)), REFUSED);
        Check.due("a dove above the last", orRefused(() -> cote.dove(16, 0)), REFUSED);
    }

    private static void numbersGivenAgain() {
        LateDoves cote = Cotes.full();
        cote.sell(15);
        cote.sell(0);
        cote.sell(7);
        Check.due("the lowest free number", cote.buy(0, 1), 0);
        Check.due("the next free number", cote.buy(1, 1), 7);
        Check.due("the last free number", cote.buy(2, 1), 15);
        Check.due("no free number", orRefused(() -> cote.buy(3, 1)), REFUSED);
        cote.sell(15);
        Check.due("sold and bought", cote.buy(2, 1), 15);
    }

    private static void ownHoles() {
        for (int hole = 0; hole < 24; hole++) {
            int own = hole;
            LateDoves cote = new LateDoves();
            Check.due("own hole " + hole, orRefused(() -> cote.buy(own, 1)), 0);
            Check.due("own hole " + hole + " of another one", orRefused(() -> cote.buy(own, 1)), REFUSED);
            cote.sell(0);
            Check.due("own hole " + hole + " of one that was sold", orRefused(() -> cote.buy(own, 1)), 0);
        }
    }

    private static void strengths() {
        LateDoves cote = new LateDoves();
        Check.due("strength 0", orRefused(() -> cote.buy(0, 0)), REFUSED);
        for (int strength = 1; strength <= 9; strength++) {
            int it = strength;
            Check.due("strength " + strength, orRefused(() -> cote.buy(it, it)), strength - 1);
            Check.due("its strength", cote.dove(strength - 1, 1), strength);
        }
        Check.due("strength 10", orRefused(() -> cote.buy(10, 10)), REFUSED);
    }

    private static void threePlaces() {
        LateDoves cote = Cotes.few();
        Check.due("in hole 0", cote.dove(0, 2), 0);
        Check.due("out", cote.dove(1, 2), NONE);
        Check.due("in hole 23", cote.dove(2, 2), 23);
        Check.due("on the roof", cote.dove(5, 2), ROOF);
        Check.due("all three together", cote.count(3) + cote.count(5) + cote.count(6), cote.count(2));
        Check.due("in holes", cote.count(3), 3);
        Check.due("on the roof", cote.count(5), 1);
        Check.due("out", cote.count(6), 1);
        LateDoves full = Cotes.full();
        Check.due("in holes, all", full.count(3), 16);
        full.dawn();
        Check.due("out, all", full.count(6), 16);
    }

    private static void oneMate() {
        LateDoves cote = Cotes.full();
        cote.mate(0, 15);
        for (int dove = 1; dove < 15; dove++) {
            int it = dove;
            Check.due("a second mate of 0", orRefused(() -> cote.mate(0, it)), REFUSED);
            Check.due("a second mate of 15", orRefused(() -> cote.mate(it, 15)), REFUSED);
            Check.due("mate of " + dove, cote.dove(dove, 3), NONE);
        }
        Check.due("mate of 0", cote.dove(0, 3), 15);
        Check.due("mate of 15", cote.dove(15, 3), 0);
    }

    // ---- reasons

    /** Lets a part happen that must be refused for this reason; it changes nothing, but that the stop is told. */
    private static void reason(Supplier<LateDoves> past, String part, int want) {
        LateDoves cote = past.get();
        Check.due("parts that happen of " + part, Check.pass(cote, part), 0);
        Check.due("the reason why not " + part, cote.stopped(1), want);
        Check.dueText("what is told behind " + part, Cotes.numbers(cote), Cotes.numbers(past.get()));
    }

    private static void reasons(Supplier<LateDoves> past, int want, String... parts) {
        for (String part : parts) {
            reason(past, part, want);
        }
    }

    private static LateDoves behind(String text) {
        LateDoves cote = new LateDoves();
        Check.pass(cote, text);
        return cote;
    }

    private static void reasonsNotHome() {
        Supplier<LateDoves> past = () -> behind("b0!5;b23!5;b8!5;h0@600");
        reasons(past, 1, "h0@600", "h0@1439", "h0@599", "h0@0");
        reasons(past, 2, "h1@599", "h1@0");
        LateDoves cote = past.get();
        Check.due("whyNot, both", cote.whyNot(0, 599), 1);
        Check.due("whyNot, a minute ahead", cote.whyNot(1, 599), 2);
        Check.due("whyNot, now", cote.whyNot(1, 600), 0);
        Check.due("now", Check.pass(cote, "h1@600"), 1);
        Check.due("a minute later", Check.pass(cote, "h2@601"), 1);
        LateDoves roof = Cotes.few();
        Check.due("one on the roof is not out", roof.whyNot(5, 1439), 1);
        Check.due("one that is out", roof.whyNot(1, 1439), 0);
    }

    private static void reasonsNotToShut() {
        Supplier<LateDoves> past = () -> behind("b0!5;b23!5;h0@1;h1@1;x7");
        reasons(past, 3, "x0", "x23");
        reasons(past, 4, "x7");
        Check.due("own holes, in which no one sits", Check.pass(past.get(), "^;x0;x23"), 3);
        reasons(() -> behind("x0;x23;b1!5"), 4, "x0", "x23");
    }

    private static void reasonsNotToBuy() {
        reasons(() -> manyDoves(15), 6, "b0!5", "b14!5");
        reasons(() -> manyDoves(15), 7, "b23!5");
        reasons(() -> manyDoves(16), 5, "b22!5", "b0!5", "b14!5", "b23!5");
    }

    /** Doves with the own holes 0, 1 and so on; the holes 14 and 23 are shut. */
    private static LateDoves manyDoves(int doves) {
        LateDoves cote = new LateDoves();
        for (int hole = 0; hole < doves; hole++) {
            cote.buy(hole, 1);
        }
        cote.shut(14);
        cote.shut(23);
        return cote;
    }

    private static void reasonsNotToPair() {
        Supplier<LateDoves> past = () -> behind("b0!5;b1!5;b2!5;b3!5;m0+1");
        reasons(past, 8, "m2+2", "m0+0");
        reasons(past, 9, "m0+2", "m2+1", "m1+0", "m0+1");
        Check.due("two without mates", Check.pass(past.get(), "m2+3"), 1);
    }

    // ---- settings

    private static void settings() {
        LateDoves cote = new LateDoves();
        Check.due("dusk at first", cote.count(15), 1080);
        Check.due("setting 1 at first", cote.count(16), 6);
        takesDusks(-1);
        takesDusks(1438);
        for (int value = -1; value <= 25; value++) {
            int it = value;
            boolean right = value >= 0 && value <= 24;
            int before = cote.count(16);
            Check.due("set(1, " + value + ")", orRefused(() -> cote.set(1, it)), right ? before : REFUSED);
            Check.due("setting 1", cote.count(16), right ? value : before);
        }
        Check.due("dusk stays", cote.count(15), 1080);
    }

    private static void takesDusks(int first) {
        LateDoves cote = new LateDoves();
        int now = 1080;
        for (int value = first; value < first + 4; value++) {
            int it = value;
            boolean right = value >= 0 && value <= 1439;
            Check.due("set(0, " + value + ")", orRefused(() -> cote.set(0, it)), right ? now : REFUSED);
            now = right ? value : now;
            Check.due("dusk", cote.count(15), now);
            Check.due("setting 1 stays", cote.count(16), 6);
        }
    }

    // ---- promises

    private static void newObject() {
        LateDoves cote = new LateDoves();
        int[] counts = {0, 0, 0, 0, 0, 0, 0, 24, 0, 0, 0, 0, 0, 0, 0, 1080, 6, 0};
        for (int what = 0; what < counts.length; what++) {
            Check.due("count(" + what + ")", cote.count(what), counts[what]);
        }
        for (int dove = 0; dove < 16; dove++) {
            int it = dove;
            Check.due("dove " + dove, orRefused(() -> cote.dove(it, 0)), REFUSED);
        }
        Check.due("the buffer's length", cote.clearBuffer(), 0);
        Check.due("restore()", orRefused(cote::restore), REFUSED);
        Check.due("undo()", orRefused(cote::undo), REFUSED);
        Check.due("another object's doves are not its own", Cotes.full().count(2) - new LateDoves().count(2), 16);
    }

    private static void boughtOut() {
        LateDoves cote = new LateDoves();
        cote.buy(5, 1);
        cote.shut(5);
        cote.home(0, 0);
        Check.due("dove 0 sits in hole 6", cote.hole(6, 0), 0);
        Check.due("a hole in which another one sits", cote.buy(6, 1), 1);
        Check.due("it is out all the same", cote.dove(1, 2), NONE);
        Check.due("dove 0 sits there still", cote.hole(6, 0), 0);
        Check.due("the hole is its own", cote.hole(6, 1), 1);
    }

    private static void mateOfASoldOne() {
        LateDoves cote = Cotes.full();
        cote.mate(15, 0);
        cote.mate(1, 2);
        cote.sell(0);
        Check.due("mate of 15", cote.dove(15, 3), NONE);
        Check.due("pairs", cote.count(8), 1);
        Check.due("the next dove 0", cote.buy(0, 1), 0);
        Check.due("has no mate", cote.dove(0, 3), NONE);
        Check.due("and 15 has none still", cote.dove(15, 3), NONE);
        cote.sell(1);
        Check.due("mate of 2", cote.dove(2, 3), NONE);
        Check.due("pairs", cote.mate(2, 15), 1);
    }

    private static void placesOfSoldOnes() {
        LateDoves cote = Cotes.few();
        Check.due("from hole 0", cote.sell(0), 0);
        Check.due("hole 0 is no one's place", cote.hole(0, 0), NONE);
        Check.due("hole 0 is no one's own", cote.hole(0, 1), NONE);
        Check.due("one that is out", cote.sell(1), NONE);
        Check.due("from hole 23", cote.sell(2), 23);
        Check.due("from the roof", cote.sell(5), ROOF);
        Check.due("the last one", cote.sell(4), 5);
        Check.due("an empty dovecote", cote.count(2), 0);
        LateDoves guest = new LateDoves();
        guest.buy(5, 1);
        guest.shut(5);
        guest.home(0, 0);
        Check.due("from a hole that is not its own", guest.sell(0), 6);
        Check.due("a shut hole stays shut", guest.hole(5, 2), 0);
        LateDoves full = Cotes.full();
        Check.due("the last number", full.sell(15), 23);
        Check.due("in holes, by the doves", full.count(3), 15);
        Check.due("in holes, by the holes", full.count(4), 15);
    }

    private static void eightPairs() {
        LateDoves cote = Cotes.full();
        for (int pair = 0; pair < 8; pair++) {
            Check.due("mate", cote.mate(15 - pair, pair), pair + 1);
        }
        Check.due("pairs", cote.count(8), 8);
        cote.sell(15);
        Check.due("pairs behind a sale", cote.count(8), 7);
    }

    private static void shutEach() {
        for (int hole = -2; hole <= 25; hole++) {
            int it = hole;
            LateDoves cote = new LateDoves();
            Check.due("shut(" + hole + ")", orRefused(() -> cote.shut(it)), hole >= 0 && hole <= 23 ? 23 : REFUSED);
        }
    }

    private static void openEach() {
        for (int hole = -2; hole <= 25; hole++) {
            int it = hole;
            LateDoves cote = new LateDoves();
            Check.due("open(" + hole + ")", orRefused(() -> cote.open(it)), hole >= 0 && hole <= 23 ? 24 : REFUSED);
        }
    }

    private static void eachSetting() {
        LateDoves cote = new LateDoves();
        Check.due("set(-1, 1)", orRefused(() -> cote.set(-1, 1)), REFUSED);
        Check.due("set(0, 1)", orRefused(() -> cote.set(0, 1)), 1080);
        Check.due("set(1, 1)", orRefused(() -> cote.set(1, 1)), 6);
        Check.due("set(2, 1)", orRefused(() -> cote.set(2, 1)), REFUSED);
    }

    private static void shutAll() {
        LateDoves cote = new LateDoves();
        for (int hole = 0; hole < 24; hole++) {
            Check.due("shut(" + hole + ")", cote.shut(hole), 23 - hole);
        }
        Check.due("open holes", cote.count(7), 0);
        LateDoves back = new LateDoves();
        Check.due("shut(23)", back.shut(23), 23);
        Check.due("shut(0)", back.shut(0), 22);
    }

    private static void openOpenOnes() {
        LateDoves cote = Cotes.full();
        Check.due("open(0)", cote.open(0), 24);
        Check.due("open(23), in which a dove sits", cote.open(23), 24);
        Check.due("it sits there still", cote.hole(23, 0), 15);
        Check.due("its own still", cote.hole(23, 1), 15);
    }

    private static void openAll() {
        LateDoves cote = new LateDoves();
        Check.shutAllBut(cote);
        for (int hole = 23; hole >= 0; hole--) {
            Check.due("open(" + hole + ")", cote.open(hole), 24 - hole);
        }
    }

    private static void previousValues() {
        LateDoves cote = new LateDoves();
        Check.due("set(0, 1439)", cote.set(0, 1439), 1080);
        Check.due("set(1, 24)", cote.set(1, 24), 6);
        Check.due("set(0, 0)", cote.set(0, 0), 1439);
        Check.due("set(1, 0)", cote.set(1, 0), 24);
        Check.due("set(0, 0) again", cote.set(0, 0), 0);
        Check.due("set(1, 0) again", cote.set(1, 0), 0);
    }
}
