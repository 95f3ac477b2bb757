/** Promises 15 to 17: undo, keep, restore. */
public final class UndoTest {
    public static void main(String[] args) {
        everyUndoableCall();
        atMostSix();
        buffersAndSnapshotsAreNotUndone();
        keep();
        restore();
        Check.end();
    }

    private static LateDoves some() {
        LateDoves cote = new LateDoves();
        Check.pass(cote, "b0!5;b1!3;b23!9;b10!1;m0+1;x12;h0@3;h1@1200;x12");
        cote.keep();
        cote.home(2, 1300);
        return cote;
    }

    private static void undone(String what, LateDoves cote, long before, int saved) {
        Check.due("saved states behind " + what, cote.count(17), saved + 1);
        Check.due("undo() of " + what, cote.undo(), saved);
        Check.due("digest() behind undo() of " + what, cote.digest(), before);
    }

    private static void everyUndoableCall() {
        LateDoves cote = some();
        long before = cote.digest();
        int saved = cote.count(17);
        cote.buy(5, 5);
        undone("buy", cote, before, saved);
        cote.sell(2);
        undone("sell", cote, before, saved);
        cote.mate(2, 3);
        undone("mate", cote, before, saved);
        cote.shut(8);
        undone("shut", cote, before, saved);
        cote.open(12);
        undone("open", cote, before, saved);
        cote.open(13);
        undone("open of an open hole", cote, before, saved);
        cote.set(0, 1);
        undone("set 0", cote, before, saved);
        cote.set(1, 6);
        undone("set to the same", cote, before, saved);
        cote.home(3, 1439);
        undone("home", cote, before, saved);
        cote.dawn();
        undone("dawn", cote, before, saved);
        cote.restore();
        undone("restore", cote, before, saved);
        Check.pass(cote, "^;^");
        undone("pass", cote, before, saved);
        Check.pass(cote, "x12");
        undone("pass without a part that happens", cote, before, saved);
    }

    private static void atMostSix() {
        LateDoves cote = new LateDoves();
        Check.refused(cote, IllegalStateException.class, "undo() when new", cote::undo);
        for (int i = 0; i < 10; i++) {
            cote.dawn();
            Check.due("saved states", cote.count(17), Math.min(i + 1, 6));
        }
        for (int left = 5; left >= 0; left--) {
            Check.due("undo()", cote.undo(), left);
            Check.due("the day", cote.count(0), left + 4);
        }
        Check.refused(cote, IllegalStateException.class, "undo() with none left", cote::undo);
        cote.dawn();
        Check.due("saved states", cote.count(17), 1);
        Check.due("the day", cote.count(0), 5);
        Check.due("undo()", cote.undo(), 0);
        Check.due("the day", cote.count(0), 4);
    }

    private static void buffersAndSnapshotsAreNotUndone() {
        LateDoves cote = new LateDoves();
        cote.dawn();
        cote.keep();
        cote.append('x');
        Check.due("saved states behind keep() and append()", cote.count(17), 1);
        Check.due("undo()", cote.undo(), 0);
        Check.due("the buffer stays", cote.append('1'), 2);
        Check.due("the snapshot stays", cote.restore(), 1);
        Check.due("undo() of restore()", cote.undo(), 0);
        Check.due("the day", cote.count(0), 0);
        cote.clearBuffer();
        Check.due("saved states behind clearBuffer()", cote.count(17), 0);
    }

    private static void keep() {
        LateDoves cote = new LateDoves();
        Check.due("keep()", cote.keep(), 0);
        cote.dawn();
        cote.dawn();
        Check.due("keep() again", cote.keep(), 2);
        cote.dawn();
        Check.due("restore()", cote.restore(), 2);
        Check.due("the day", cote.count(0), 2);
        Check.due("saved states", cote.count(17), 4);
    }

    private static void restore() {
        LateDoves cote = new LateDoves();
        Check.refused(cote, IllegalStateException.class, "restore() when new", cote::restore);
        LateDoves kept = some();
        long before = kept.digest();
        kept.keep();
        kept.append('q');
        kept.buy(5, 5);
        kept.sell(0);
        kept.set(0, 7);
        kept.shut(20);
        kept.dawn();
        Check.due("saved states", kept.count(17), 6);
        Check.due("restore()", kept.restore(), 0);
        Check.due("the buffer stays", kept.clearBuffer(), 1);
        kept.undo();
        kept.undo();
        kept.undo();
        kept.undo();
        Check.due("undo()", kept.undo(), 1);
        Check.due("restore() again", kept.restore(), 0);
        Check.due("saved states", kept.count(17), 2);
        Check.due("as before", kept.digest() == before ? 1 : 0, 1);
        kept.sell(1);
        kept.restore();
        Check.due("the snapshot stays as it was", kept.dove(1, 0), 1);
    }
}
