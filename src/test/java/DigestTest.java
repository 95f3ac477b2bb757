import java.util.function.Supplier;

/** Promise 27: digest. */
public final class DigestTest {
    public static void main(String[] args) {
        withAStop();
        listOfTheDocument();
        everyShare();
        Check.end();
    }

    private static void withAStop() {
        LateDoves cote = new LateDoves();
        cote.shut(0);
        cote.open(0);
        cote.buy(0, 1);
        cote.home(0, 5);
        Check.pass(cote, "h0@6");
        Check.due("digest() against the list", cote.digest(), byTheList(cote, ""));
    }

    /** Each past is made anew for each look, as an object answers 512 calls. */
    private static void listOfTheDocument() {
        same(LateDoves::new);
        same(DigestTest::doves);
        same(() -> {
            LateDoves cote = doves();
            cote.sell(2);
            return cote;
        });
        same(DigestTest::crowded);
        same(() -> {
            LateDoves cote = crowded();
            Check.pass(cote, "^;h0@1;h9@2");
            return cote;
        });
        same(() -> {
            LateDoves cote = crowded();
            cote.keep();
            cote.dawn();
            cote.restore();
            return cote;
        });
        same(() -> {
            LateDoves cote = crowded();
            cote.dawn();
            cote.undo();
            return cote;
        });
        same(Cotes::few);
        same(Cotes::many);
        same(() -> Cotes.longRow(24));
        same(Cotes::full);
        for (int dusk = 1437; dusk <= 1439; dusk++) {
            int it = dusk;
            same(() -> lastMinutes(it, 0));
            same(() -> lastMinutes(it, 1438));
            same(() -> lastMinutes(it, 1439));
        }
    }

    /** Dove 1 is out at this time: in its own hole 2, if it comes in time, and beside its mate in 9, if it is late. */
    private static LateDoves lastMinutes(int dusk, int now) {
        LateDoves cote = new LateDoves();
        cote.buy(10, 1);
        cote.buy(2, 1);
        cote.mate(0, 1);
        cote.set(0, dusk);
        cote.home(0, now);
        return cote;
    }

    private static LateDoves doves() {
        LateDoves cote = new LateDoves();
        Check.pass(cote, "b0!5;b1!3;b2!1;b23!9;b7!7;m0+1;x3;x4;h0@100;h1@200");
        return cote;
    }

    private static LateDoves crowded() {
        LateDoves cote = doves();
        cote.open(3);
        cote.open(4);
        Check.shutAllBut(cote, 0, 1);
        cote.home(3, 1200);
        return cote;
    }

    private static void same(Supplier<LateDoves> past) {
        for (String text : new String[] {"", "h1@~!;", Cotes.FULL_TEXT}) {
            LateDoves cote = past.get();
            Check.write(cote, text);
            Check.due("digest() against the list, text " + text, cote.digest(), byTheList(cote, text));
        }
    }

    /** Each share of up to 16 doves, as its bits go into the hash. */
    private static void everyShare() {
        for (int doves = 1; doves <= 16; doves++) {
            for (int home = 0; home <= doves; home++) {
                LateDoves cote = new LateDoves();
                for (int i = 0; i < doves; i++) {
                    cote.buy(i, 5);
                }
                for (int i = 0; i < home; i++) {
                    cote.home(i, i);
                }
                Check.due("digest() at " + home + " of " + doves, cote.digest(), byTheList(cote, ""));
            }
        }
    }

    private static long hash;

    private static void add(long value) {
        hash = 31 * hash + value;
    }

    private static long byTheList(LateDoves cote, String text) {
        hash = 3889;
        for (int what = 0; what <= 17; what++) {
            add(cote.count(what));
        }
        for (int dove = 0; dove < 16; dove++) {
            addDove(cote, dove);
        }
        for (int hole = 0; hole < 24; hole++) {
            for (int what = 0; what <= 2; what++) {
                add(cote.hole(hole, what));
            }
        }
        for (int step = 0; cote.step(step, 0) != LateDoves.NONE; step++) {
            add(cote.step(step, 0));
            add(cote.step(step, 1));
        }
        add(cote.stopped(0));
        add(cote.stopped(1));
        add(cote.freeHole());
        add(cote.lateIsAsGood());
        add(Double.doubleToLongBits(cote.homeShare()));
        add(text.length());
        for (int i = 0; i < text.length(); i++) {
            add(text.charAt(i));
        }
        return hash;
    }

    private static void addDove(LateDoves cote, int dove) {
        try {
            cote.dove(dove, 0);
        } catch (IndexOutOfBoundsException e) {
            return;
        }
        add(dove);
        for (int what = 0; what <= 7; what++) {
            add(cote.dove(dove, what));
        }
        add(cote.whyNot(dove, 1439));
        for (int what = 0; what <= 2; what++) {
            add(cote.ifHome(dove, 1439, what));
        }
    }
}
