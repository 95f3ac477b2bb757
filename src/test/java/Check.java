/** Counts answers that are not as due; each test ends with end(). */
final class Check {
    private static int asked = 0;
    private static int wrong = 0;
    private static String sentence = "";

    /** A call of the class under test. */
    interface Call {
        long run();
    }

    private Check() {
    }

    /** A test of one sentence of the document, that stands in these words below this heading. */
    static void sentence(String heading, String words, Runnable test) {
        sentence = heading + ", \"" + words + "\": ";
        due("the document says so", !Doc.isThere() || Doc.says(heading, words) ? 1 : 0, 1);
        int before = asked;
        test.run();
        due("the test of it asks for answers", asked > before ? 1 : 0, 1);
        sentence = "";
    }

    static void due(String what, long got, long want) {
        dueText(what, String.valueOf(got), String.valueOf(want));
    }

    static void dueDouble(String what, double got, double want) {
        due(what + " (as bits)", Double.doubleToRawLongBits(got), Double.doubleToRawLongBits(want));
    }

    static void dueText(String what, String got, String want) {
        asked++;
        if (!want.equals(got)) {
            wrong++;
            System.out.println(sentence + what + " answered " + got + ", due is " + want);
        }
    }

    /** The call must throw exactly this exception, and the cote must be as it was. */
    static void refused(LateDoves cote, Class<? extends RuntimeException> want, String what, Call call) {
        long before = cote.digest();
        String got = "nothing";
        try {
            call.run();
        } catch (RuntimeException e) {
            got = e.getClass().getName();
        }
        dueText(what + " throws", got, want.getName());
        due("digest() behind the refused " + what, cote.digest(), before);
    }

    /** Puts a text into the buffer, in place of what stood there. */
    static void write(LateDoves cote, String text) {
        cote.clearBuffer();
        for (int i = 0; i < text.length(); i++) {
            cote.append(text.charAt(i));
        }
    }

    /** Writes a text and lets it happen. */
    static int pass(LateDoves cote, String text) {
        write(cote, text);
        return cote.pass();
    }

    /** Shuts all holes but those that are named. */
    static void shutAllBut(LateDoves cote, int... kept) {
        for (int hole = 0; hole < 24; hole++) {
            boolean shuts = true;
            for (int keep : kept) {
                shuts = shuts && keep != hole;
            }
            if (shuts) {
                cote.shut(hole);
            }
        }
    }

    static void steps(LateDoves cote, String what, int... want) {
        for (int i = 0; i < want.length / 2; i++) {
            due(what + ": step(" + i + ", 0)", cote.step(i, 0), want[2 * i]);
            due(what + ": step(" + i + ", 1)", cote.step(i, 1), want[2 * i + 1]);
        }
        due(what + ": step(" + want.length / 2 + ", 0)", cote.step(want.length / 2, 0), LateDoves.NONE);
        due(what + ": step(" + want.length / 2 + ", 1)", cote.step(want.length / 2, 1), LateDoves.NONE);
    }

    static void doveIs(LateDoves cote, int dove, int... want) {
        for (int what = 0; what < want.length; what++) {
            due("dove(" + dove + ", " + what + ")", cote.dove(dove, what), want[what]);
        }
    }

    static void end() {
        System.out.println(asked + " answers, " + wrong + " not as due");
        if (wrong != 0 || asked == 0) {
            System.exit(1);
        }
    }
}
