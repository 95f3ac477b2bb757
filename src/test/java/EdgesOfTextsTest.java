/** Boundary cases of the heading "Input text" and of the promises 10 to 14. */
public final class EdgesOfTextsTest {
    private static final int NONE = LateDoves.NONE;
    private static final String TEXT = "Input text";

    public static void main(String[] args) {
        buffer();
        parts();
        happening();
        stops();
        Check.end();
    }

    private static void buffer() {
        Check.sentence(TEXT, "The buffer has at most 60 characters.", EdgesOfTextsTest::sixtyCharacters);
        Check.sentence(TEXT, "The buffer is read from left to right; a character is a syntax error if no evening as a text, "
            + "of any length, begins with the characters before it and this character.",
            EdgesOfTextsTest::syntaxErrors);
        Check.sentence("Promise 10", "the character code, 33 to 126", EdgesOfTextsTest::everyCode);
        Check.sentence("Promise 10", "Returns the new length of the buffer.", EdgesOfTextsTest::newLengths);
        Check.sentence("Promise 11", "Returns the length that it had.", EdgesOfTextsTest::lengthsThatItHad);
        Check.sentence("Promise 12", "Returns the index of the first character that is a syntax error; the length of the "
            + "buffer if there is none.", EdgesOfTextsTest::firstErrors);
    }

    private static void parts() {
        Check.sentence(TEXT, "An evening as a text is one or more parts with \";\" between them",
            EdgesOfTextsTest::oneOrMoreParts);
        Check.sentence(TEXT, "\"h\", a dove, 0 to 15, \"@\", and a time, 0 to 1439 (it comes home)",
            EdgesOfTextsTest::comingHome);
        Check.sentence(TEXT, "\"b\", a hole, 0 to 23, \"!\", and a strength, 1 to 9 (a dove is bought with this own hole)",
            EdgesOfTextsTest::buying);
        Check.sentence(TEXT, "\"m\", a dove, \"+\", and a dove (they become mates)", EdgesOfTextsTest::pairing);
        Check.sentence(TEXT, "\"x\" and a hole (it is shut)", EdgesOfTextsTest::shutting);
        Check.sentence(TEXT, "\"o\" and a hole (it is opened)", EdgesOfTextsTest::opening);
        Check.sentence(TEXT, "or \"^\" (dawn)", EdgesOfTextsTest::dawning);
        Check.sentence(TEXT, "numbers without a leading zero", EdgesOfTextsTest::leadingZeros);
    }

    private static void happening() {
        Check.sentence("Promise 13", "Lets the evening in the buffer happen, part by part, up to the first part for which "
            + "the method would throw an exception, and clears the buffer.", EdgesOfTextsTest::upToTheFirst);
        Check.sentence("Promise 13", "Undoable, as one call, also if nothing happens.", EdgesOfTextsTest::asOneCall);
        Check.sentence("Promise 13", "The latest stop is that of this call then, or none, if all happens.",
            EdgesOfTextsTest::latestStop);
        Check.sentence("Promise 13", "Returns how many parts happen.", EdgesOfTextsTest::howManyParts);
        Check.sentence("Promise 13", "Throws `IllegalArgumentException` if the buffer is not a complete evening as a text "
            + "(the buffer stays)", EdgesOfTextsTest::bufferStays);
    }

    private static void stops() {
        Check.sentence("Promise 14", "0: the number of the part that stopped it, from 0", EdgesOfTextsTest::numberOfAPart);
        Check.sentence("Promise 14", "1: the reason, 1 to 9, or 10 if there is no such dove", EdgesOfTextsTest::noSuchDove);
        Check.sentence("Promise 14", "Returns the number; NONE if there is no stop.", EdgesOfTextsTest::noStop);
    }

    // ---- the buffer

    private static void fill(LateDoves cote, int length) {
        for (int i = 0; i < length; i++) {
            cote.append('^');
        }
    }

    private static boolean takes(LateDoves cote, int code) {
        try {
            cote.append(code);
            return true;
        } catch (IllegalStateException | IllegalArgumentException e) {
            return false;
        }
    }

    private static void sixtyCharacters() {
        LateDoves cote = new LateDoves();
        fill(cote, 59);
        Check.due("takes a 60th", takes(cote, '^') ? 1 : 0, 1);
        Check.due("takes a 61st", takes(cote, '^') ? 1 : 0, 0);
        Check.due("the length", cote.clearBuffer(), 60);
        fill(cote, 60);
        Check.due("60 again", cote.clearBuffer(), 60);
        Check.pass(cote, Cotes.FULL_TEXT);
        Check.due("takes one behind pass()", takes(cote, 'x') ? 1 : 0, 1);
    }

    private static void everyCode() {
        for (int from = 0; from <= 160; from += 40) {
            LateDoves cote = new LateDoves();
            for (int code = from; code < from + 40; code++) {
                Check.due("takes " + code, takes(cote, code) ? 1 : 0, code >= 33 && code <= 126 ? 1 : 0);
            }
        }
    }

    private static void newLengths() {
        LateDoves cote = new LateDoves();
        for (int length = 1; length <= 60; length++) {
            Check.due("append", cote.append(32 + length), length);
        }
    }

    private static void lengthsThatItHad() {
        LateDoves cote = new LateDoves();
        Check.due("an empty buffer", cote.clearBuffer(), 0);
        fill(cote, 1);
        Check.due("one character", cote.clearBuffer(), 1);
        fill(cote, 60);
        Check.due("a full buffer", cote.clearBuffer(), 60);
        Check.due("cleared", cote.clearBuffer(), 0);
        Check.due("the next character is the first one", cote.append('h'), 1);
        Check.due("no error of what was cleared", cote.firstError(), 1);
    }

    private static void error(String text, int want) {
        LateDoves cote = new LateDoves();
        Check.write(cote, text);
        Check.due("firstError() of " + text, cote.firstError(), want);
    }

    /** No error, though it may end too soon. */
    private static void begins(String text) {
        error(text, text.length());
    }

    /** The last character is an error. */
    private static void ends(String text) {
        error(text, text.length() - 1);
    }

    private static void firstErrors() {
        error("", 0);
        error("h", 1);
        error("1", 0);
        error("1h", 0);
        error("h1@1;1", 5);
        error("h1@1;1;1", 5);
        error(Cotes.FULL_TEXT, 60);
        error(Cotes.FULL_TEXT.substring(0, 59) + ";", 59);
        error(Cotes.FULL_TEXT.substring(0, 59) + "~", 59);
        error("~" + Cotes.FULL_TEXT.substring(1), 0);
        error(Cotes.FULL_TEXT.substring(0, 30) + "!" + Cotes.FULL_TEXT.substring(31), 30);
        LateDoves cote = new LateDoves();
        Check.write(cote, "h1@1440");
        Check.due("firstError()", cote.firstError(), 6);
        Check.due("firstError() again", cote.firstError(), 6);
        Check.due("the buffer stays", cote.append(';'), 8);
        Check.due("firstError() still", cote.firstError(), 6);
    }

    private static void syntaxErrors() {
        begins("h15@143");
        ends("h15@1440");
        begins("^;".repeat(29) + "h1");
        begins("^;".repeat(29) + "b2");
        begins("^;".repeat(30));
        ends("^;".repeat(29) + "h;");
        error("h16@1", 2);
        error("b24!1", 2);
        error("b3!0;", 3);
        error("m1+16", 4);
        error("x24;^", 2);
        error("^x1", 1);
        error("H1@1", 0);
    }

    // ---- parts

    private static void oneOrMoreParts() {
        LateDoves cote = new LateDoves();
        Check.due("one", Check.pass(cote, "^"), 1);
        Check.due("two", Check.pass(cote, "^;^"), 2);
        Check.due("thirty", Check.pass(cote, "^;".repeat(29) + "^"), 30);
        Check.due("the day", cote.count(0), 33);
        ends(";");
        ends("^;;");
        begins("^;");
        for (String text : new String[] {"", "^;"}) {
            Check.write(cote, text);
            Check.refused(cote, IllegalArgumentException.class, "pass() of " + text, cote::pass);
        }
    }

    /** Doves 0 to 15 have the own holes 0 to 15 and are out. */
    private static LateDoves sixteen() {
        LateDoves cote = new LateDoves();
        for (int hole = 0; hole < 16; hole++) {
            cote.buy(hole, 1);
        }
        return cote;
    }

    private static void comingHome() {
        for (int dove = 0; dove < 16; dove++) {
            LateDoves cote = sixteen();
            int time = dove == 15 ? 1439 : dove * 96;
            Check.due("parts", Check.pass(cote, "h" + dove + "@" + time), 1);
            Check.due("dove " + dove + " sits", cote.dove(dove, 2), dove);
            Check.due("the time", cote.count(1), time);
            Check.due("the others are out", cote.count(6), 15);
        }
        ends("h16");
        ends("h20");
        ends("h1@1440");
        ends("h1@1500");
        ends("h1@2000");
        ends("h1@-");
        ends("h-");
        ends("h;");
        ends("h@");
        ends("h1;");
        ends("h1@;");
        ends("h1!");
        begins("h15@1439;");
        begins("h0@0;");
    }

    private static void buying() {
        for (int hole = 0; hole < 24; hole++) {
            LateDoves cote = new LateDoves();
            int strength = 1 + hole % 9;
            Check.due("parts", Check.pass(cote, "b" + hole + "!" + strength), 1);
            Check.doveIs(cote, 0, hole, strength, NONE, NONE, 0, 0, 0, 0);
        }
        ends("b24");
        ends("b30");
        ends("b1!0");
        ends("b1!10");
        ends("b;");
        ends("b1;");
        ends("b1!;");
        ends("b1@");
        begins("b23!9;");
        begins("b0!1;");
    }

    private static void pairing() {
        for (int dove = 0; dove < 15; dove++) {
            LateDoves cote = sixteen();
            Check.due("parts", Check.pass(cote, "m" + dove + "+15"), 1);
            Check.due("the mate of " + dove, cote.dove(dove, 3), 15);
            Check.due("the mate of 15", cote.dove(15, 3), dove);
            cote.sell(15);
            Check.due("no mate", cote.dove(dove, 3), NONE);
        }
        LateDoves cote = sixteen();
        Check.due("parts", Check.pass(cote, "m15+0"), 1);
        Check.due("the mate of 15", cote.dove(15, 3), 0);
        ends("m16");
        ends("m1+16");
        ends("m;");
        ends("m1;");
        ends("m1+;");
        ends("m1@");
        begins("m0+0;");
        begins("m15+15;");
    }

    private static void shutting() {
        for (int hole = 0; hole < 24; hole++) {
            LateDoves cote = new LateDoves();
            Check.due("parts", Check.pass(cote, "x" + hole), 1);
            Check.due("hole " + hole, cote.hole(hole, 2), 0);
            Check.due("open holes", cote.count(7), 23);
        }
        ends("x24");
        ends("x;");
        ends("x1!");
        begins("x23;");
        begins("x0;");
    }

    private static void opening() {
        for (int hole = 0; hole < 24; hole++) {
            LateDoves cote = new LateDoves();
            Check.shutAllBut(cote);
            Check.due("parts", Check.pass(cote, "o" + hole), 1);
            Check.due("hole " + hole, cote.hole(hole, 2), 1);
            Check.due("open holes", cote.count(7), 1);
            Check.due("an open one", Check.pass(cote, "o" + hole + ";o" + hole), 2);
            Check.due("open holes", cote.count(7), 1);
        }
        ends("o24");
        ends("o;");
        ends("o1+");
        begins("o23;");
        begins("o0;");
    }

    private static void dawning() {
        LateDoves cote = Cotes.full();
        Check.due("parts", Check.pass(cote, "^"), 1);
        Check.due("the day", cote.count(0), 1);
        Check.due("out", cote.count(6), 16);
        Check.due("in their own at dawn", cote.count(11), 16);
        ends("^^");
        ends("^1");
        begins("^;");
    }

    private static void leadingZeros() {
        for (String before : new String[] {"h", "h1@", "b", "m", "m1+", "x", "o"}) {
            begins(before + "0");
            ends(before + "00");
            ends(before + "01");
        }
        ends("b1!0");
        ends("h1@01");
        begins("h10@100;");
        begins("b10!1;");
        begins("b20!1;");
    }

    // ---- happening

    private static void upToTheFirst() {
        LateDoves cote = new LateDoves();
        Check.due("parts", Check.pass(cote, "b0!5;h0@9;h0@9;b1!5;x5;^"), 2);
        Check.due("what stands ahead of it happened", cote.dove(0, 2), 0);
        Check.due("what stands behind it did not: a dove", cote.count(2), 1);
        Check.due("a hole", cote.count(7), 24);
        Check.due("a dawn", cote.count(0), 0);
        Check.due("the buffer is empty", cote.clearBuffer(), 0);
        Check.due("the first part", Check.pass(cote, "x0;x1"), 0);
        Check.due("the buffer is empty", cote.clearBuffer(), 0);
        Check.due("hole 1 is open", cote.hole(1, 2), 1);
        Check.due("the last part", Check.pass(cote, "x1;x2;x2"), 2);
        Check.due("open holes", cote.count(7), 22);
        refusedPartsDoNothing();
    }

    private static void refusedPartsDoNothing() {
        for (String part : new String[] {"h0@1439", "h1@999", "h3@1439", "h6@1439", "m1+3", "m0+0", "m4+0", "m4+4", "x0",
            "x23", "x12", "b0!5", "b4!5", "b12!5"}) {
            LateDoves cote = Cotes.few();
            Check.due("parts of " + part, Check.pass(cote, part), 0);
            Check.dueText("what is told behind " + part, Cotes.numbers(cote), Cotes.numbers(Cotes.few()));
        }
        for (String part : new String[] {"b0!5", "b8!5"}) {
            LateDoves cote = Cotes.full();
            Check.due("parts of a 17th dove", Check.pass(cote, part), 0);
            Check.dueText("what is told behind " + part, Cotes.numbers(cote), Cotes.numbers(Cotes.full()));
        }
    }

    private static void asOneCall() {
        LateDoves cote = new LateDoves();
        long empty = cote.digest();
        Check.pass(cote, "b0!5;b1!5;m0+1;h0@9;^;x3;x3");
        Check.due("saved states", cote.count(17), 1);
        Check.due("undo()", cote.undo(), 0);
        Check.due("digest()", cote.digest(), empty);
        Check.due("nothing happens", Check.pass(cote, "h0@1"), 0);
        Check.due("saved states", cote.count(17), 1);
        Check.due("a stop", cote.stopped(0), 0);
        Check.due("undo()", cote.undo(), 0);
        Check.due("no stop", cote.stopped(0), NONE);
        Check.due("digest()", cote.digest(), empty);
        LateDoves six = Cotes.many();
        Check.pass(six, "^;^;^");
        Check.due("saved states are six still", six.count(17), 6);
    }

    private static void latestStop() {
        LateDoves cote = new LateDoves();
        Check.pass(cote, "^;h3@1");
        Check.due("the part", cote.stopped(0), 1);
        Check.due("the reason", cote.stopped(1), 10);
        Check.pass(cote, "x0;^;x0");
        Check.due("the next stop's part", cote.stopped(0), 2);
        Check.due("the next stop's reason", cote.stopped(1), 4);
        cote.shut(1);
        cote.dawn();
        Check.due("it stays behind other calls", cote.stopped(0), 2);
        Check.refused(cote, IllegalArgumentException.class, "pass() of nothing", cote::pass);
        Check.due("it stays behind a pass that throws", cote.stopped(1), 4);
        Check.pass(cote, "^");
        Check.due("none: the part", cote.stopped(0), NONE);
        Check.due("none: the reason", cote.stopped(1), NONE);
    }

    private static void howManyParts() {
        LateDoves cote = new LateDoves();
        Check.due("none of one", Check.pass(cote, "h0@0"), 0);
        Check.due("one of one", Check.pass(cote, "b0!1"), 1);
        Check.due("one of two", Check.pass(cote, "h0@0;h0@0"), 1);
        Check.due("all of two", Check.pass(cote, "x1;x2"), 2);
        Check.due("none of thirty", Check.pass(cote, Cotes.FULL_TEXT), 0);
        cote.open(1);
        Check.due("all of thirty", Check.pass(cote, Cotes.FULL_TEXT), 30);
    }

    private static void bufferStays() {
        for (String text : new String[] {"", "h", "^;", "^^", "x24", Cotes.FULL_TEXT.substring(0, 59) + ";"}) {
            LateDoves cote = new LateDoves();
            Check.write(cote, text);
            Check.refused(cote, IllegalArgumentException.class, "pass() of " + text, cote::pass);
            Check.due("nothing is saved", cote.count(17), 0);
            Check.due("the length", cote.clearBuffer(), text.length());
        }
        LateDoves cote = new LateDoves();
        Check.write(cote, "^;");
        Check.refused(cote, IllegalArgumentException.class, "pass() ahead of the last character", cote::pass);
        cote.append('^');
        Check.due("complete then", cote.pass(), 2);
    }

    // ---- stops

    private static void numberOfAPart() {
        for (int ahead = 0; ahead <= 28; ahead++) {
            LateDoves cote = new LateDoves();
            Check.due("parts", Check.pass(cote, "^;".repeat(ahead) + "m0+0"), ahead);
            Check.due("the part that stopped it", cote.stopped(0), ahead);
        }
        LateDoves last = new LateDoves();
        last.shut(0);
        Check.due("parts of the longest text", Check.pass(last, "^;".repeat(29) + "x0"), 29);
        Check.due("the last part of it stopped it", last.stopped(0), 29);
        Check.due("the reason", last.stopped(1), 4);
    }

    private static void noSuchDove() {
        for (String part : new String[] {"h3@1439", "h3@0", "h6@0", "h15@1439", "m3+1", "m1+3", "m6+15", "m3+3", "m0+3",
            "m15+0"}) {
            LateDoves cote = Cotes.few();
            Check.pass(cote, part);
            Check.due("the reason why not " + part, cote.stopped(1), 10);
        }
        LateDoves empty = new LateDoves();
        Check.pass(empty, "h0@0");
        Check.due("an empty dovecote", empty.stopped(1), 10);
        LateDoves full = Cotes.full();
        Check.pass(full, "h15@1439");
        Check.due("there is a dove 15", full.stopped(1), 1);
    }

    private static void noStop() {
        LateDoves cote = new LateDoves();
        Check.due("a new object: the part", cote.stopped(0), NONE);
        Check.due("a new object: the reason", cote.stopped(1), NONE);
        Check.pass(cote, "^");
        Check.due("all happened: the part", cote.stopped(0), NONE);
        Check.due("all happened: the reason", cote.stopped(1), NONE);
        Check.pass(cote, "m0+0");
        Check.due("part 0 is not none", cote.stopped(0), 0);
        cote.undo();
        Check.due("behind undo()", cote.stopped(0), NONE);
    }
}
