/** Promise 27: digest. */
public final class DigestTest {
    public static void main(String[] args) {
        withAStop();
        listOfTheDocument();
        everyShare();
        Check.end();
    }

    private static void withAStop() {
        LateDoves cote = new LateDoves();
        cote.shut(0);
        cote.open(0);
        cote.buy(0, 1);
        cote.home(0, 5);
        Check.pass(cote, "h0@6");
        Check.due("digest() against the list", cote.digest(), byTheList(cote, ""));
    }

    private static void listOfTheDocument() {
        LateDoves cote = new LateDoves();
        Check.due("digest() of a new object", cote.digest(), byTheList(cote, ""));
        Check.pass(cote, "b0!5;b1!3;b2!1;b23!9;b7!7;m0+1;x3;x4;h0@100;h1@200");
        same(cote);
        cote.sell(2);
        same(cote);
        cote.buy(5, 5);
        same(cote);
        Check.shutAllBut(openAll(cote), 0, 1);
        same(cote);
        cote.home(3, 1200);
        same(cote);
        Check.pass(cote, "^;h0@1;h9@2");
        same(cote);
        cote.keep();
        cote.dawn();
        cote.restore();
        same(cote);
        cote.undo();
        same(cote);
    }

    private static LateDoves openAll(LateDoves cote) {
        for (int hole = 0; hole < 24; hole++) {
            cote.open(hole);
        }
        return cote;
    }

    private static void same(LateDoves cote) {
        Check.due("digest() against the list", cote.digest(), byTheList(cote, ""));
        Check.write(cote, "h1@~!;");
        Check.due("digest() with a text", cote.digest(), byTheList(cote, "h1@~!;"));
        cote.clearBuffer();
        Check.due("digest() without the text", cote.digest(), byTheList(cote, ""));
    }

    /** Each share of up to 16 doves, as its bits go into the hash. */
    private static void everyShare() {
        for (int doves = 1; doves <= 16; doves++) {
            LateDoves cote = new LateDoves();
            for (int i = 0; i < doves; i++) {
                cote.buy(i, 5);
            }
            for (int i = 0; i < doves; i++) {
                Check.due("digest() at " + i + " of " + doves, cote.digest(), byTheList(cote, ""));
                cote.home(i, i);
            }
            Check.due("digest() at all of " + doves, cote.digest(), byTheList(cote, ""));
        }
    }

    private static long hash;

    private static void add(long value) {
        hash = 31 * hash + value;
    }

    private static long byTheList(LateDoves cote, String text) {
        hash = 3889;
        for (int what = 0; what <= 17; what++) {
            add(cote.count(what));
        }
        for (int dove = 0; dove < 16; dove++) {
            addDove(cote, dove);
        }
        for (int hole = 0; hole < 24; hole++) {
            for (int what = 0; what <= 2; what++) {
                add(cote.hole(hole, what));
            }
        }
        for (int step = 0; cote.step(step, 0) != LateDoves.NONE; step++) {
            add(cote.step(step, 0));
            add(cote.step(step, 1));
        }
        add(cote.stopped(0));
        add(cote.stopped(1));
        add(cote.freeHole());
        add(cote.lateIsAsGood());
        add(Double.doubleToLongBits(cote.homeShare()));
        add(text.length());
        for (int i = 0; i < text.length(); i++) {
            add(text.charAt(i));
        }
        return hash;
    }

    private static void addDove(LateDoves cote, int dove) {
        try {
            cote.dove(dove, 0);
        } catch (IndexOutOfBoundsException e) {
            return;
        }
        add(dove);
        for (int what = 0; what <= 7; what++) {
            add(cote.dove(dove, what));
        }
        add(cote.whyNot(dove, 1439));
        for (int what = 0; what <= 2; what++) {
            add(cote.ifHome(dove, 1439, what));
        }
    }
}
