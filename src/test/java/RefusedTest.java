import java.util.ArrayList;
import java.util.List;
import java.util.function.Supplier;

/** Each throws clause of the document, the order of exceptions, and that a refused call changes nothing. */
public final class RefusedTest {
    private static final Class<? extends RuntimeException> INDEX = IndexOutOfBoundsException.class;
    private static final Class<? extends RuntimeException> ARGUMENT = IllegalArgumentException.class;
    private static final Class<? extends RuntimeException> STATE = IllegalStateException.class;
    private static final int MIN = Integer.MIN_VALUE;
    private static final int MAX = Integer.MAX_VALUE;

    private static final int[] NO_HOLES = {-1, 24, MIN, MAX};
    /** In Cotes.few(): below the first, above the last, one that was sold, one that was not bought yet. */
    private static final int[] NO_DOVES = {-1, 16, MIN, MAX, 3, 6};
    private static final int[] NO_TIMES = {-1, 1440, MIN, MAX};

    private static final String NO_HOLE = "Throws `IndexOutOfBoundsException` if there is no such hole";
    private static final String NO_DOVE = "Throws `IndexOutOfBoundsException` if there is no such dove";

    private interface Act {
        long on(LateDoves cote);
    }

    private interface ActWith {
        long on(LateDoves cote, int value);
    }

    private static final List<Act> ALL = new ArrayList<>();

    public static void main(String[] args) {
        dovesAndHoles();
        evenings();
        texts();
        undoAndSnapshot();
        looks();
        whatWouldBe();
        Check.sentence("Exceptions", "If several exceptions apply, the one that is named first in the throws clause is "
            + "thrown.", RefusedTest::severalApply);
        Check.sentence("Exceptions", "A call that throws an exception changes nothing.", RefusedTest::oneBehindTheOther);
        Check.end();
    }

    // ---- asking

    private static String thrown(LateDoves cote, Act act) {
        try {
            act.on(cote);
            return "nothing";
        } catch (RuntimeException e) {
            return e.getClass().getName();
        }
    }

    /** The call must throw exactly this, and its cote must hold what a twin holds that was not asked. */
    private static void refusedBehind(Supplier<LateDoves> past, Class<? extends RuntimeException> want, String what, Act act) {
        LateDoves asked = past.get();
        Check.dueText(what + " throws", thrown(asked, act), want.getName());
        Check.dueText("all that is held behind the refused " + what, Cotes.all(asked), Cotes.all(past.get()));
    }

    private static void refused(Class<? extends RuntimeException> want, String what, Act act) {
        refusedBehind(Cotes::few, want, what, act);
        refusedBehind(Cotes::many, want, what, act);
        ALL.add(act);
    }

    private static void refusedWith(Class<? extends RuntimeException> want, String what, int[] values, ActWith act) {
        for (int value : values) {
            refused(want, what + " with " + value, cote -> act.on(cote, value));
        }
    }

    private static int[] values(int... values) {
        return values;
    }

    // ---- each throws clause

    private static void dovesAndHoles() {
        Check.sentence("Promise 2", NO_HOLE, () -> refusedWith(INDEX, "buy", NO_HOLES, (c, v) -> c.buy(v, 5)));
        Check.sentence("Promise 2", "Throws `IllegalArgumentException` if strength is out of range",
            () -> refusedWith(ARGUMENT, "buy", values(0, 10, -1, MIN, MAX), (c, v) -> c.buy(7, v)));
        Check.sentence("Promise 2", "Throws `IllegalStateException` if it cannot be bought", RefusedTest::cannotBeBought);
        Check.sentence("Promise 3", NO_DOVE, () -> refusedWith(INDEX, "sell", NO_DOVES, LateDoves::sell));
        Check.sentence("Promise 4", NO_DOVE, () -> {
            refusedWith(INDEX, "mate, first", NO_DOVES, (c, v) -> c.mate(v, 4));
            refusedWith(INDEX, "mate, second", NO_DOVES, (c, v) -> c.mate(4, v));
        });
        Check.sentence("Promise 4", "Throws `IllegalStateException` if they cannot be mates", RefusedTest::cannotBeMates);
        Check.sentence("Promise 5", NO_HOLE, () -> refusedWith(INDEX, "shut", NO_HOLES, LateDoves::shut));
        Check.sentence("Promise 5", "Throws `IllegalStateException` if it cannot be shut", () -> {
            refusedWith(STATE, "shut of a hole with a dove", values(0, 23, 5), LateDoves::shut);
            refusedWith(STATE, "shut of a shut hole", values(4, 12), LateDoves::shut);
        });
        Check.sentence("Promise 6", NO_HOLE, () -> refusedWith(INDEX, "open", NO_HOLES, LateDoves::open));
        Check.sentence("Promise 7", "Throws `IndexOutOfBoundsException` if there is no such setting",
            () -> refusedWith(INDEX, "set", values(-1, 2, MIN, MAX), (c, v) -> c.set(v, 1)));
        Check.sentence("Promise 7", "Throws `IllegalArgumentException` if value is out of range", () -> {
            refusedWith(ARGUMENT, "set 0", NO_TIMES, (c, v) -> c.set(0, v));
            refusedWith(ARGUMENT, "set 1", values(-1, 25, MIN, MAX), (c, v) -> c.set(1, v));
        });
    }

    private static void cannotBeBought() {
        refused(STATE, "buy with another one's own hole", c -> c.buy(0, 5));
        refused(STATE, "buy with another one's own hole, the last", c -> c.buy(23, 5));
        refused(STATE, "buy with another one's own hole, that is shut", c -> c.buy(4, 5));
        refused(STATE, "buy with a shut hole", c -> c.buy(12, 5));
        refusedBehind(Cotes::full, STATE, "buy of a 17th dove", c -> c.buy(0, 5));
    }

    private static void cannotBeMates() {
        refused(STATE, "mate of one and the same", c -> c.mate(4, 4));
        refused(STATE, "mate of one and the same, that has a mate", c -> c.mate(0, 0));
        refused(STATE, "mate of one that has a mate", c -> c.mate(0, 4));
        refused(STATE, "mate with one that has a mate", c -> c.mate(4, 1));
        refused(STATE, "mate of two that are mates", c -> c.mate(0, 1));
        refused(STATE, "mate of two that are mates, the other way", c -> c.mate(1, 0));
    }

    private static void evenings() {
        Check.sentence("Promise 8", NO_DOVE, () -> refusedWith(INDEX, "home", NO_DOVES, (c, v) -> c.home(v, 1439)));
        Check.sentence("Promise 8", "Throws `IllegalArgumentException` if time is out of range",
            () -> refusedWith(ARGUMENT, "home", NO_TIMES, (c, v) -> c.home(1, v)));
        Check.sentence("Promise 8", "Throws `IllegalStateException` if it cannot come home", () -> {
            refused(STATE, "home of one that sits in a hole", c -> c.home(0, 1439));
            refusedBehind(Cotes::few, STATE, "home of one on the roof", c -> c.home(5, 1439));
            refusedBehind(Cotes::few, STATE, "home a minute ahead of now", c -> c.home(1, 999));
            refusedBehind(Cotes::many, STATE, "home a minute ahead of now", c -> c.home(1, 49));
            refused(STATE, "home at 0, when it is later", c -> c.home(1, 0));
        });
    }

    private static void texts() {
        Check.sentence("Promise 10", "Throws `IllegalArgumentException` if code is not 33 to 126",
            () -> refusedWith(ARGUMENT, "append", values(32, 127, 0, -1, 128, 65536 + '^', MIN, MAX), LateDoves::append));
        Check.sentence("Promise 10", "Throws `IllegalStateException` if the buffer has 60 characters", () -> {
            refusedBehind(Cotes::full, STATE, "append('^') to a full buffer", c -> c.append('^'));
            refusedBehind(Cotes::full, STATE, "append(33) to a full buffer", c -> c.append(33));
            refusedBehind(Cotes::full, STATE, "append(126) to a full buffer", c -> c.append(126));
        });
        Check.sentence("Promise 13", "Throws `IllegalArgumentException` if the buffer is not a complete evening as a text "
            + "(the buffer stays)", () -> {
            refused(ARGUMENT, "pass of a text that is not complete", LateDoves::pass);
            refusedBehind(Cotes::empty, ARGUMENT, "pass of an empty buffer", LateDoves::pass);
            for (String text : new String[] {"h", "h1@", "^;", "x1;b", "b1!0", "^^", "x24", ";", "^;;^", "h1@1440", "m1",
                "^;".repeat(30), "x10;" + "^;".repeat(28), "^;".repeat(29) + "^?"}) {
                refusedBehind(() -> withText(text), ARGUMENT, "pass of " + text, LateDoves::pass);
            }
        });
        Check.sentence("Promise 14", "Throws `IllegalArgumentException` if what is neither 0 nor 1",
            () -> refusedWith(ARGUMENT, "stopped", values(-1, 2, MIN, MAX), LateDoves::stopped));
    }

    private static LateDoves withText(String text) {
        LateDoves cote = Cotes.few();
        Check.write(cote, text);
        return cote;
    }

    private static void undoAndSnapshot() {
        Check.sentence("Promise 15", "Throws `IllegalStateException` if there is none", () -> {
            refusedBehind(Cotes::empty, STATE, "undo of a new object", LateDoves::undo);
            refusedBehind(RefusedTest::allUndone, STATE, "undo behind the last one", LateDoves::undo);
        });
        Check.sentence("Promise 17", "Throws `IllegalStateException` if there is no snapshot", () -> {
            refusedBehind(Cotes::empty, STATE, "restore of a new object", LateDoves::restore);
            refusedBehind(Cotes::full, STATE, "restore without a snapshot", LateDoves::restore);
        });
    }

    private static LateDoves allUndone() {
        LateDoves cote = Cotes.many();
        for (int left = 6; left > 0; left--) {
            cote.undo();
        }
        return cote;
    }

    private static void looks() {
        Check.sentence("Promise 18", NO_DOVE, () -> refusedWith(INDEX, "dove", NO_DOVES, (c, v) -> c.dove(v, 0)));
        Check.sentence("Promise 18", "Throws `IllegalArgumentException` if what is not 0 to 7",
            () -> refusedWith(ARGUMENT, "dove", values(-1, 8, MIN, MAX), (c, v) -> c.dove(0, v)));
        Check.sentence("Promise 19", NO_HOLE, () -> refusedWith(INDEX, "hole", NO_HOLES, (c, v) -> c.hole(v, 0)));
        Check.sentence("Promise 19", "Throws `IllegalArgumentException` if what is not 0 to 2",
            () -> refusedWith(ARGUMENT, "hole", values(-1, 3, MIN, MAX), (c, v) -> c.hole(0, v)));
        Check.sentence("Promise 20", "Throws `IllegalArgumentException` if what is not 0 to 17",
            () -> refusedWith(ARGUMENT, "count", values(-1, 18, MIN, MAX), LateDoves::count));
        Check.sentence("Promise 21", "Throws `IllegalArgumentException` if step is below 0, or what is neither 0 nor 1",
            () -> {
                refusedWith(ARGUMENT, "step, step", values(-1, -2, MIN), (c, v) -> c.step(v, 0));
                refusedWith(ARGUMENT, "step, what", values(-1, 2, MIN, MAX), (c, v) -> c.step(0, v));
                refusedWith(ARGUMENT, "step behind the last one, what", values(-1, 2), (c, v) -> c.step(MAX, v));
            });
    }

    private static void whatWouldBe() {
        String noTime = "Throws `IllegalArgumentException` if time is out of range";
        Check.sentence("Promise 22", NO_DOVE, () -> refusedWith(INDEX, "whyNot", NO_DOVES, (c, v) -> c.whyNot(v, 0)));
        Check.sentence("Promise 22", noTime, () -> {
            refusedWith(ARGUMENT, "whyNot", NO_TIMES, (c, v) -> c.whyNot(1, v));
            refusedWith(ARGUMENT, "whyNot of one that is not out", NO_TIMES, (c, v) -> c.whyNot(0, v));
        });
        Check.sentence("Promise 23", NO_DOVE, () -> refusedWith(INDEX, "ifHome", NO_DOVES, (c, v) -> c.ifHome(v, 1439, 0)));
        Check.sentence("Promise 23", noTime + ", or what is not 0 to 2", () -> {
            refusedWith(ARGUMENT, "ifHome, time", NO_TIMES, (c, v) -> c.ifHome(1, v, 0));
            refusedWith(ARGUMENT, "ifHome of one that is not out, time", NO_TIMES, (c, v) -> c.ifHome(0, v, 0));
            refusedWith(ARGUMENT, "ifHome, what", values(-1, 3, MIN, MAX), (c, v) -> c.ifHome(1, 1439, v));
            refusedWith(ARGUMENT, "ifHome of one that is not out, what", values(-1, 3), (c, v) -> c.ifHome(0, 1439, v));
        });
    }

    // ---- several at once

    private static void severalApply() {
        refusedWith(INDEX, "buy without a strength, hole", NO_HOLES, (c, v) -> c.buy(v, 0));
        refused(ARGUMENT, "buy without a strength, hole of another one", c -> c.buy(0, 0));
        refused(ARGUMENT, "buy with too much strength, shut hole", c -> c.buy(12, 10));
        refusedBehind(Cotes::full, INDEX, "buy of a 17th dove, no hole, no strength", c -> c.buy(24, 0));
        refusedBehind(Cotes::full, INDEX, "buy of a 17th dove, no hole", c -> c.buy(-1, 5));
        refusedBehind(Cotes::full, ARGUMENT, "buy of a 17th dove, too much strength", c -> c.buy(0, 10));
        refusedWith(INDEX, "mate of one and the same, that is none", NO_DOVES, (c, v) -> c.mate(v, v));
        refusedWith(INDEX, "mate of one that has a mate with none", NO_DOVES, (c, v) -> c.mate(0, v));
        refusedWith(INDEX, "mate of none with one that has a mate", NO_DOVES, (c, v) -> c.mate(v, 0));
        refused(INDEX, "set, no setting and no value", c -> c.set(2, -1));
        refused(INDEX, "set, no setting and a value above all", c -> c.set(-1, 1440));
        refusedWith(INDEX, "home of none, no time", NO_DOVES, (c, v) -> c.home(v, 1440));
        refusedWith(INDEX, "home of none, ahead of now", NO_DOVES, (c, v) -> c.home(v, 0));
        refusedWith(ARGUMENT, "home of one that sits, no time", NO_TIMES, (c, v) -> c.home(0, v));
        refusedBehind(Cotes::full, ARGUMENT, "append(32) to a full buffer", c -> c.append(32));
        refusedBehind(Cotes::full, ARGUMENT, "append(127) to a full buffer", c -> c.append(127));
        refusedWith(INDEX, "dove of none, no what", NO_DOVES, (c, v) -> c.dove(v, 8));
        refusedWith(INDEX, "hole of none, no what", NO_HOLES, (c, v) -> c.hole(v, 3));
        refusedWith(INDEX, "whyNot of none, no time", NO_DOVES, (c, v) -> c.whyNot(v, 1440));
        refusedWith(INDEX, "ifHome of none, no time", NO_DOVES, (c, v) -> c.ifHome(v, -1, 0));
        refusedWith(INDEX, "ifHome of none, no what", NO_DOVES, (c, v) -> c.ifHome(v, 1439, 3));
    }

    /** All that is refused, on one cote; an object is used for at most 512 calls, so a new one is taken in time. */
    private static void oneBehindTheOther() {
        LateDoves asked = Cotes.few();
        for (int i = 0; i < ALL.size(); i++) {
            if (i % 200 == 199) {
                Check.dueText("all that is held", Cotes.all(asked), Cotes.all(Cotes.few()));
                asked = Cotes.few();
            }
            Check.due("the call " + i + " is refused", thrown(asked, ALL.get(i)).equals("nothing") ? 0 : 1, 1);
        }
        Check.dueText("all that is held", Cotes.all(asked), Cotes.all(Cotes.few()));
    }
}
