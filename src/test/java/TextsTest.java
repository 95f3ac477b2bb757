/** Promises 10 to 14: append, clearBuffer, firstError, pass, stopped. */
public final class TextsTest {
    private static final int NONE = LateDoves.NONE;

    public static void main(String[] args) {
        append();
        clearBuffer();
        textsWithoutError();
        textsWithError();
        everyNumber();
        everyCharacterBehindAPart();
        incompleteTexts();
        wholeEvening();
        reasons();
        stops();
        passIsOneUndo();
        stoppedRefused();
        Check.end();
    }

    private static void append() {
        LateDoves cote = new LateDoves();
        Check.refused(cote, IllegalArgumentException.class, "append(32)", () -> cote.append(32));
        Check.refused(cote, IllegalArgumentException.class, "append(127)", () -> cote.append(127));
        Check.refused(cote, IllegalArgumentException.class, "append(-1)", () -> cote.append(-1));
        Check.due("append(33)", cote.append(33), 1);
        Check.due("append(126)", cote.append(126), 2);
        for (int i = 3; i <= 60; i++) {
            Check.due("append", cote.append('^'), i);
        }
        Check.refused(cote, IllegalStateException.class, "append of a 61st", () -> cote.append('^'));
        Check.refused(cote, IllegalArgumentException.class, "append(32), full", () -> cote.append(32));
        Check.due("saved states", cote.count(17), 0);
    }

    private static void clearBuffer() {
        LateDoves cote = new LateDoves();
        Check.write(cote, "h0");
        Check.due("clearBuffer()", cote.clearBuffer(), 2);
        Check.due("clearBuffer() again", cote.clearBuffer(), 0);
        Check.due("saved states", cote.count(17), 0);
        Check.due("append", cote.append('x'), 1);
    }

    private static void error(String text, int want) {
        LateDoves cote = new LateDoves();
        Check.write(cote, text);
        long before = cote.digest();
        Check.due("firstError() of " + text, cote.firstError(), want);
        Check.due("firstError() of " + text + ", asked again", cote.firstError(), want);
        Check.due("digest() behind firstError()", cote.digest(), before);
    }

    private static void textsWithoutError() {
        String[] texts = {"", "h", "h1", "h15", "h15@", "h0@0", "h9@1439", "h10@999", "b", "b23!9", "b0!1", "m15+15",
            "m0+", "x23", "x0", "o19", "o", "^", "^;", "^;^", "h1@2;b3!4;m5+6;x7;o8;^", "x2;"};
        for (String text : texts) {
            error(text, text.length());
        }
    }

    private static void textsWithError() {
        Object[][] texts = {{"a", 0}, {"H", 0}, {"0", 0}, {";", 0}, {"@", 0}, {"~", 0}, {"hh", 1}, {"h@", 1}, {"h;", 1},
            {"h-1", 1}, {"h16", 2}, {"h20", 2}, {"h00", 2}, {"h01", 2}, {"h150", 3}, {"h1!", 2}, {"h1+", 2}, {"h1;", 2},
            {"h1@;", 3}, {"h1@@", 3}, {"h1@1440", 6}, {"h1@1500", 6}, {"h1@2000", 6}, {"h1@01", 4}, {"h1@10000", 7},
            {"h1@5h", 4}, {"h1@144h", 6}, {"b24", 2}, {"b30", 2}, {"b230", 3}, {"b1@", 2}, {"b1!0", 3}, {"b1!10", 4},
            {"b1!9!", 4}, {"m16", 2}, {"m1@", 2}, {"m1+16", 4}, {"m1+1+", 4}, {"m1;", 2}, {"m1+;", 3}, {"x24", 2},
            {"x;", 1}, {"x1@", 2}, {"x1!", 2}, {"x1x", 2}, {"o24", 2}, {"o05", 2}, {"^^", 1}, {"^1", 1}, {"^;;", 2},
            {"^;^;h16@1", 6}, {"x1;x2;x24", 8}, {"h1@2;b3!4;m5+6;x7;o8;^x", 22}};
        for (Object[] text : texts) {
            error((String) text[0], (Integer) text[1]);
        }
    }

    private static void everyNumber() {
        LateDoves cote = new LateDoves();
        String[] before = {"h", "h3@", "b", "b3!", "m", "m3+", "x", "o"};
        int[] lowest = {0, 0, 0, 1, 0, 0, 0, 0};
        int[] highest = {15, 1439, 23, 9, 15, 15, 23, 23};
        for (int i = 0; i < before.length; i++) {
            for (int number = 0; number <= highest[i] + 30; number++) {
                if (number % 30 == 29) {
                    cote = new LateDoves();
                }
                String text = before[i] + number;
                Check.write(cote, text);
                boolean right = number >= lowest[i] && number <= highest[i];
                Check.due(text + " is without an error", cote.firstError() == text.length() ? 1 : 0, right ? 1 : 0);
            }
        }
    }

    private static void everyCharacterBehindAPart() {
        String[] before = {"", "h", "h1", "h2", "h1@", "h1@0", "h1@143", "h1@144", "b", "b2", "b1!", "b1!1", "m1", "m1+",
            "m1+1", "x2", "o", "^", "^;"};
        String[] allowed = {"bhmox^", "0123456789", "012345@", "@", "0123456789", ";", "0123456789;", ";", "0123456789",
            "0123!", "123456789", ";", "012345+", "0123456789", "012345;", "0123;", "0123456789", ";", "bhmox^"};
        for (int i = 0; i < before.length; i++) {
            for (char code = 33; code < 127; code++) {
                boolean right = allowed[i].indexOf(code) >= 0;
                error(before[i] + code, before[i].length() + (right ? 1 : 0));
            }
        }
    }

    private static void incompleteTexts() {
        String[] texts = {"", "h", "h0", "h0@", "b", "b1", "b1!", "m1", "m1+", "x", "o", "^;", "x1;h", "a", "^^", "h16@1",
            "x1;x24", "x1;;"};
        for (String text : texts) {
            LateDoves cote = new LateDoves();
            cote.buy(0, 1);
            Check.pass(cote, "x0;x0");
            Check.write(cote, text);
            Check.refused(cote, IllegalArgumentException.class, "pass() of " + text, cote::pass);
            Check.due("the latest stop stays", cote.stopped(0), 1);
            Check.due("the buffer stays", cote.clearBuffer(), text.length());
        }
    }

    private static void wholeEvening() {
        LateDoves cote = new LateDoves();
        Check.due("parts", Check.pass(cote, "b10!3;b2!9;m1+0;h0@1000;x2;o23;h1@1439"), 7);
        Check.due("stopped(0)", cote.stopped(0), NONE);
        Check.due("stopped(1)", cote.stopped(1), NONE);
        Check.due("the buffer is empty", cote.clearBuffer(), 0);
        Check.doveIs(cote, 0, 10, 3, 10, 1, 0, 0, 0, 0);
        Check.doveIs(cote, 1, 2, 9, 9, 0, 1, 0, 0, 0);
        Check.steps(cote, "the coming home in a text", 1, 9);
        Check.due("the time", cote.count(1), 1439);
        Check.due("hole 2 is shut", cote.hole(2, 2), 0);
        Check.due("parts", Check.pass(cote, "^;o2;^;h1@5"), 4);
        Check.due("the day", cote.count(0), 2);
        Check.due("hole 2 is open", cote.hole(2, 2), 1);
        Check.due("out at the latest dawn", cote.count(14), 2);
        Check.due("saved states", cote.count(17), 2);
        StringBuilder dawns = new StringBuilder("^");
        for (int i = 1; i < 30; i++) {
            dawns.append(";^");
        }
        Check.due("30 dawns", Check.pass(cote, dawns.toString()), 30);
        Check.due("the day", cote.count(0), 32);

        LateDoves shifts = new LateDoves();
        Check.due("parts", Check.pass(shifts, "b0!9;b1!1;x0;h1@1;h0@2"), 5);
        Check.due("no hole is free behind that", Check.pass(shifts, "x3;x4"), 2);
        Check.due("on the roof", shifts.count(5), 0);
    }

    private static void stop(LateDoves cote, String text, int part, int reason) {
        Check.due("parts of " + text, Check.pass(cote, text), part);
        Check.due(text + ": stopped(0)", cote.stopped(0), part);
        Check.due(text + ": stopped(1)", cote.stopped(1), reason);
        Check.due(text + ": the buffer is empty", cote.clearBuffer(), 0);
    }

    private static void reasons() {
        LateDoves cote = new LateDoves();
        Check.pass(cote, "b0!1;b1!2;b2!3;b3!4;b4!5;m0+1;h0@500;h1@600");
        stop(cote, "h1@600", 0, 1);
        stop(cote, "h1@1", 0, 1);
        stop(cote, "h2@599", 0, 2);
        stop(cote, "x0", 0, 3);
        stop(cote, "x20;x20", 1, 4);
        stop(cote, "b0!1", 0, 6);
        stop(cote, "b20!1", 0, 7);
        stop(cote, "m2+2", 0, 8);
        stop(cote, "m0+0", 0, 8);
        stop(cote, "m0+2", 0, 9);
        stop(cote, "m2+1", 0, 9);
        stop(cote, "h5@0", 0, 10);
        stop(cote, "m5+5", 0, 10);
        stop(cote, "m0+5", 0, 10);
        stop(cote, "m15+0", 0, 10);
        Check.pass(cote, "x4");
        stop(cote, "b4!1", 0, 6);
        Check.pass(cote, "b5!1;b6!1;b7!1;b8!1;b9!1;b10!1;b11!1;b12!1;b13!1;b14!1");
        Check.pass(cote, "b15!1");
        stop(cote, "b16!1", 0, 5);
        stop(cote, "b0!1", 0, 5);
        stop(cote, "b20!1", 0, 5);
    }

    private static void stops() {
        LateDoves cote = new LateDoves();
        stop(cote, "b3!5;^;h0@5;h0@6;b4!5;^", 3, 1);
        Check.due("what was ahead of the stop happened", cote.dove(0, 2), 3);
        Check.due("what was behind it did not", cote.count(2), 1);
        Check.due("the day", cote.count(0), 1);
        cote.buy(7, 1);
        cote.keep();
        cote.dawn();
        Check.due("the stop stays", cote.stopped(0), 3);
        Check.due("parts", Check.pass(cote, "^"), 1);
        Check.due("no stop: stopped(0)", cote.stopped(0), NONE);
        Check.due("no stop: stopped(1)", cote.stopped(1), NONE);
        cote.undo();
        Check.due("the stop from before", cote.stopped(0), 3);
        Check.due("its reason", cote.stopped(1), 1);
        cote.undo();
        Check.pass(cote, "x9;m0+9");
        cote.restore();
        Check.due("the stop of the snapshot", cote.stopped(0), 3);
        cote.undo();
        Check.due("the stop ahead of restore()", cote.stopped(0), 1);
        Check.due("its reason", cote.stopped(1), 10);
    }

    private static void passIsOneUndo() {
        LateDoves cote = new LateDoves();
        long empty = cote.digest();
        Check.pass(cote, "b0!1;b1!2;h0@500;x9;x9;^");
        Check.due("saved states", cote.count(17), 1);
        Check.due("undo()", cote.undo(), 0);
        Check.due("digest() behind undo()", cote.digest(), empty);
        Check.due("nothing happens", Check.pass(cote, "h0@1"), 0);
        Check.due("saved states", cote.count(17), 1);
        Check.write(cote, "x1");
        Check.due("undo()", cote.undo(), 0);
        Check.due("the buffer is no part of a state", cote.clearBuffer(), 2);
        Check.due("stopped(0)", cote.stopped(0), NONE);
    }

    private static void stoppedRefused() {
        LateDoves cote = new LateDoves();
        Check.pass(cote, "h0@1");
        Check.refused(cote, IllegalArgumentException.class, "stopped(-1)", () -> cote.stopped(-1));
        Check.refused(cote, IllegalArgumentException.class, "stopped(2)", () -> cote.stopped(2));
    }
}
