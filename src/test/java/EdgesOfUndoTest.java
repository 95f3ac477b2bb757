import java.util.function.Consumer;

/** Boundary cases of the heading "Undo, the snapshot" and of the promises 15 to 17. */
public final class EdgesOfUndoTest {
    private static final int NONE = LateDoves.NONE;
    private static final String UNDO = "Undo, the snapshot";

    public static void main(String[] args) {
        savedStates();
        undoableMethods();
        Check.sentence("Promise 15", "Restores the latest saved state, and drops it.", EdgesOfUndoTest::latestFirst);
        Check.sentence("Promise 15", "Returns how many saved states are left.", EdgesOfUndoTest::howManyAreLeft);
        Check.sentence("Promise 16", "Takes a snapshot, in place of the one before.", EdgesOfUndoTest::inPlaceOfTheOneBefore);
        Check.sentence("Promise 16", "Returns the day.", EdgesOfUndoTest::dayOfKeep);
        Check.sentence("Promise 17", "Restores the state of the snapshot, which stays. Undoable.",
            EdgesOfUndoTest::snapshotStays);
        Check.sentence("Promise 17", "Returns the day then.", EdgesOfUndoTest::dayOfRestore);
        Check.end();
    }

    private static void savedStates() {
        Check.sentence(UNDO, "Each method that is marked \"undoable\" and does not throw an exception saves the state from "
            + "before it (also if it changes nothing)", EdgesOfUndoTest::eachUndoableMethod);
        Check.sentence(UNDO, "does not throw an exception saves the state", EdgesOfUndoTest::notIfItThrows);
        Check.sentence(UNDO, "(also if it changes nothing)", EdgesOfUndoTest::alsoIfItChangesNothing);
        Check.sentence(UNDO, "all, also the latest stop, but the buffer, the saved states and the snapshot.",
            EdgesOfUndoTest::allButThree);
        Check.sentence(UNDO, "At most 6 states are saved; the oldest one is dropped first.", EdgesOfUndoTest::atMostSix);
    }

    private static void undoableMethods() {
        undoable(2, "buy", cote -> cote.buy(8, 1));
        undoable(3, "sell", cote -> cote.sell(5));
        undoable(4, "mate", cote -> cote.mate(2, 4));
        undoable(5, "shut", cote -> cote.shut(22));
        undoable(6, "open", cote -> cote.open(12));
        undoable(7, "set", cote -> cote.set(0, 0));
        undoable(8, "home", cote -> cote.home(1, 1439));
        undoable(9, "dawn", cote -> cote.dawn());
        undoable(13, "pass", cote -> Check.pass(cote, "h1@1081;^;b22!5;m2+4;x7;^"));
        undoable(17, "restore", cote -> cote.restore());
    }

    private static void undoable(int promise, String what, Consumer<LateDoves> call) {
        Check.sentence("Promise " + promise, "Undoable", () -> saves(what, call, 1));
    }

    private static void saves(String what, Consumer<LateDoves> call, int more) {
        LateDoves cote = Cotes.few();
        long before = cote.digest();
        call.accept(cote);
        Check.due("saved states behind " + what, cote.count(17), 5 + more);
        if (more == 1) {
            Check.due("undo() of " + what, cote.undo(), 5);
        }
        cote.clearBuffer();
        LateDoves twin = Cotes.few();
        Check.due("digest() of a twin", twin.digest(), before);
        twin.clearBuffer();
        Check.dueText("all that is held behind undo() of " + what, Cotes.all(cote), Cotes.all(twin));
    }

    private static void eachUndoableMethod() {
        saves("append", cote -> cote.append('^'), 0);
        saves("clearBuffer", cote -> cote.clearBuffer(), 0);
        saves("firstError", cote -> cote.firstError(), 0);
        saves("looks", EdgesOfUndoTest::look, 0);
        LateDoves each = new LateDoves();
        each.buy(0, 1);
        each.buy(23, 1);
        each.mate(0, 1);
        Check.due("saved states behind three", each.count(17), 3);
        each.shut(0);
        each.open(0);
        each.set(0, 0);
        Check.due("saved states behind six", each.count(17), 6);
        LateDoves cote = Cotes.few();
        cote.keep();
        Check.due("saved states behind keep", cote.count(17), 5);
        cote.undo();
        Check.due("saved states behind undo", cote.count(17), 4);
    }

    private static void look(LateDoves cote) {
        cote.stopped(0);
        cote.dove(0, 0);
        cote.hole(0, 0);
        cote.count(0);
        cote.step(0, 0);
        cote.whyNot(1, 1439);
        for (int what = 0; what < 3; what++) {
            cote.ifHome(1, 1439, what);
        }
        cote.freeHole();
        cote.lateIsAsGood();
        cote.homeShare();
        cote.digest();
    }

    private static void notIfItThrows() {
        LateDoves cote = Cotes.few();
        Check.refused(cote, IllegalStateException.class, "shut", () -> cote.shut(12));
        Check.refused(cote, IllegalArgumentException.class, "set", () -> cote.set(1, 25));
        Check.refused(cote, IndexOutOfBoundsException.class, "sell", () -> cote.sell(3));
        Check.refused(cote, IllegalArgumentException.class, "pass", cote::pass);
        Check.due("saved states", cote.count(17), 5);
        LateDoves none = new LateDoves();
        Check.refused(none, IllegalStateException.class, "restore", none::restore);
        Check.due("no saved state", none.count(17), 0);
    }

    private static void alsoIfItChangesNothing() {
        LateDoves cote = new LateDoves();
        cote.open(0);
        Check.due("open of an open hole", cote.count(17), 1);
        cote.set(0, 1080);
        Check.due("set to the same dusk", cote.count(17), 2);
        cote.set(1, 6);
        Check.due("set to the same limit", cote.count(17), 3);
        Check.pass(cote, "o23");
        Check.due("pass of an open hole", cote.count(17), 4);
        cote.keep();
        cote.restore();
        Check.due("restore of the same", cote.count(17), 5);
        Check.pass(cote, "m0+0");
        Check.pass(cote, "m0+0");
        Check.due("pass without a part that happens", cote.count(17), 6);
        for (int left = 5; left >= 0; left--) {
            Check.due("undo()", cote.undo(), left);
        }
        Check.due("one was dropped, the one ahead of the first open()", cote.count(7), 24);
    }

    private static void allButThree() {
        LateDoves cote = new LateDoves();
        Check.pass(cote, "^;m0+0");
        Check.pass(cote, "^");
        Check.due("no stop", cote.stopped(0), NONE);
        cote.keep();
        Check.write(cote, "x1");
        cote.undo();
        Check.due("the stop: the part", cote.stopped(0), 1);
        Check.due("the stop: the reason", cote.stopped(1), 10);
        Check.due("the buffer is not undone", cote.append('2'), 3);
        Check.due("the snapshot is not undone", cote.restore(), 2);
        Check.due("the snapshot's stop", cote.stopped(0), NONE);
        Check.due("the buffer is not restored", cote.clearBuffer(), 3);
        Check.due("saved states", cote.count(17), 2);
        cote.undo();
        cote.undo();
        Check.due("the day", cote.count(0), 0);
        Check.due("the snapshot stays behind the last undo()", cote.restore(), 2);
        everyNumberComesBack();
    }

    /** A coming home, a dawn and a text change each number that there is; undo() brings each back. */
    private static void everyNumberComesBack() {
        LateDoves cote = Cotes.longRow(24);
        cote.home(0, 6);
        cote.dawn();
        Check.pass(cote, "m0+9;b22!1;o21");
        Check.pass(cote, "o22;b22!1;m1+2;h0@1100;h1@1200;^");
        for (int left = 0; left < 4; left++) {
            cote.undo();
        }
        Check.dueText("as ahead of them", Cotes.numbers(cote), Cotes.numbers(Cotes.longRow(24)));
    }

    private static void atMostSix() {
        LateDoves cote = new LateDoves();
        for (int day = 0; day < 6; day++) {
            Check.due("saved states", cote.count(17), day);
            cote.dawn();
        }
        Check.due("six", cote.count(17), 6);
        cote.dawn();
        Check.due("a seventh", cote.count(17), 6);
        cote.dawn();
        Check.due("an eighth", cote.count(17), 6);
        for (int left = 5; left >= 0; left--) {
            cote.undo();
            Check.due("the day of the saved state", cote.count(0), left + 2);
        }
        Check.refused(cote, IllegalStateException.class, "a seventh undo()", cote::undo);
        for (int day = 0; day < 7; day++) {
            cote.dawn();
        }
        Check.due("six again", cote.count(17), 6);
        Check.due("undo()", cote.undo(), 5);
        Check.due("the day", cote.count(0), 8);
    }

    private static void latestFirst() {
        LateDoves cote = new LateDoves();
        cote.shut(0);
        cote.shut(1);
        cote.shut(2);
        cote.undo();
        Check.due("hole 2", cote.hole(2, 2), 1);
        Check.due("hole 1", cote.hole(1, 2), 0);
        cote.shut(23);
        cote.undo();
        Check.due("hole 23", cote.hole(23, 2), 1);
        Check.due("hole 1", cote.hole(1, 2), 0);
        cote.undo();
        Check.due("hole 1", cote.hole(1, 2), 1);
        Check.due("hole 0", cote.hole(0, 2), 0);
        cote.undo();
        Check.due("open holes", cote.count(7), 24);
        LateDoves full = Cotes.full();
        full.sell(15);
        full.dawn();
        full.undo();
        full.undo();
        Check.due("dove 15 sits again", full.hole(23, 0), 15);
    }

    private static void howManyAreLeft() {
        LateDoves cote = Cotes.many();
        for (int left = 5; left >= 0; left--) {
            Check.due("undo()", cote.undo(), left);
            Check.due("saved states", cote.count(17), left);
        }
        Check.refused(cote, IllegalStateException.class, "undo() with none", cote::undo);
        cote.dawn();
        Check.due("undo() of one", cote.undo(), 0);
    }

    private static void inPlaceOfTheOneBefore() {
        LateDoves cote = new LateDoves();
        cote.keep();
        cote.shut(5);
        cote.keep();
        cote.shut(6);
        cote.restore();
        Check.due("of the second snapshot", cote.hole(5, 2), 0);
        Check.due("not behind it", cote.hole(6, 2), 1);
        Check.due("saved states are not of the snapshot", cote.count(17), 3);
    }

    private static void dayOfKeep() {
        LateDoves cote = new LateDoves();
        Check.due("keep()", cote.keep(), 0);
        cote.dawn();
        Check.due("keep() behind a dawn", cote.keep(), 1);
        Check.due("keep() again", cote.keep(), 1);
        cote.undo();
        Check.due("keep() behind undo()", cote.keep(), 0);
    }

    private static void snapshotStays() {
        LateDoves cote = Cotes.few();
        cote.dawn();
        String first = restored(cote);
        cote.dawn();
        cote.sell(0);
        cote.open(12);
        Check.dueText("restored a second time", restored(cote), first);
        Check.due("undo()", cote.undo(), 5);
        Check.due("undo() of restore(): the day", cote.count(0), 1);
        Check.due("undo() of restore(): hole 12", cote.hole(12, 2), 1);
        latestComingHomeComesBack();
        LateDoves empty = new LateDoves();
        empty.keep();
        empty.dawn();
        empty.restore();
        empty.dawn();
        empty.restore();
        Check.due("the snapshot of an empty dovecote", empty.count(0), 0);
    }

    /** The steps are of the state: those of the snapshot, and none, if none were there. */
    private static void latestComingHomeComesBack() {
        LateDoves cote = Cotes.longRow(24);
        cote.home(0, 6);
        cote.keep();
        cote.dawn();
        cote.home(9, 0);
        Check.steps(cote, "ahead of restore()", 9, 8);
        cote.restore();
        Check.steps(cote, "of the snapshot", 0, 20, 1, 1, 2, 2, 3, 3, 4, 4, 5, 5, 6, 6, 7, 7, 8, 8, 9, LateDoves.ROOF);
        cote.undo();
        Check.steps(cote, "behind undo() of restore()", 9, 8);
        LateDoves none = new LateDoves();
        none.keep();
        none.buy(0, 1);
        none.home(0, 0);
        none.restore();
        Check.steps(none, "of a snapshot without a coming home");
    }

    private static String restored(LateDoves cote) {
        cote.restore();
        StringBuilder text = new StringBuilder();
        for (int what = 0; what < 17; what++) {
            text.append(cote.count(what)).append(' ');
        }
        for (int what = 0; what < 8; what++) {
            text.append(cote.dove(0, what)).append(' ').append(cote.dove(5, what)).append(' ');
        }
        return text.append(cote.stopped(0)).append(' ').append(cote.step(0, 0)).toString();
    }

    private static void dayOfRestore() {
        LateDoves cote = new LateDoves();
        cote.keep();
        cote.dawn();
        cote.dawn();
        Check.due("restore()", cote.restore(), 0);
        cote.undo();
        cote.keep();
        cote.undo();
        Check.due("restore() of a later day", cote.restore(), 2);
    }
}
