/** What the document says of the text, and the promises 10 to 13. */
final class TextBoundaries extends Boundaries {
    private static final String TEXT = "Text";
    private static final String APPEND = "Promise 10";
    private static final String CLEAR = "Promise 11";
    private static final String FAULT = "Promise 12";
    private static final String RUN = "Promise 13";
    /** 59 characters. */
    private static final String TWENTY =
        "t1;t1;t1;t1;t1;t1;t1;t1;t1;t1;t1;t1;t1;t1;t1;t1;t1;t1;t1;t1";

    TextBoundaries(Due due, Sentences sentences) {
        super(due, sentences);
    }

    @Override
    void all() {
        sixtyCharacters();
        scriptOfOrders();
        orderOfThreeKinds();
        digits();
        bellsAscend();
        ordersMean();
        faultIsAnIndex();
        faultIsTheLength();
        append();
        clearText();
        fault();
        run();
    }

    private void faults(int want, String... texts) {
        for (String text : texts) {
            is("fault of \"" + text + "\"", fault(text), want);
        }
    }

    /** The fault is at the last character, whatever follows; nothing before it is wrong. */
    private void faultsAtTheLast(String... texts) {
        for (String text : texts) {
            int last = text.length() - 1;
            is("fault of \"" + text + "\"", fault(text), last);
            is("fault of \"" + text + "\" and more", fault(text + ";t1"), last);
            int before = fault(text.substring(0, last));
            isTrue("what is before it is right so far", before == NONE || before == last);
        }
    }

    /** No character is wrong, but it is no script yet. */
    private void unfinished(String... texts) {
        for (String text : texts) {
            is("fault of \"" + text + "\"", fault(text), text.length());
        }
    }

    private void sixtyCharacters() {
        sentence(TEXT, "There is a text of at most 60 characters (empty at first).");
        BellTowns x = new BellTowns();
        is("length at first", x.count(10), 0);
        for (int length = 1; length <= 60; length++) {
            is("append", x.append('a'), length);
        }
        is("length", x.count(10), 60);
        is("append to 60", x.append('a'), TOO_MANY);
        is("length", x.count(10), 60);
    }

    private void scriptOfOrders() {
        sentence(TEXT, "A script is written as follows:");
        faults(NONE, "p001234;s54;t9");
        sentence(TEXT, "script = order { \";\" order }");
        faults(NONE, "t1", "t1;t1", "p0;p0", "s00;s00", "p0;s00;t1", "t1;s00;p01", TWENTY);
        unfinished("t1;", "p0;", "p01;", "s00;", "t1;p0;", TWENTY + ";");
        faultsAtTheLast(";", "t1;;", "p0;;", "t1t", "s00s", "p0p", "t1,", "t1:", "p0t", " ",
            "t1 ", "t1; ");
    }

    private void orderOfThreeKinds() {
        sentence(TEXT, "order = \"p\" town { bell } | \"s\" town bell | \"t\" turns");
        faults(NONE, "p0", "p00", "p04", "p001234", "p501234", "s00", "t1");
        unfinished("p", "s", "s0", "t", "t1;p", "t1;s", "t1;s0", "t1;t");
        faultsAtTheLast("p0012340", "p0012345", "s000", "t11", "p0s", "s0;", "s;", "t;", "p;",
            "ps", "s0s", "tt", "P", "S", "T", "q", "r", "o", "u", "0", "p ", "s0 ");
        for (char first = 32; first <= 126; first++) {
            boolean isLetter = first == 'p' || first == 's' || first == 't';
            is("fault of \"" + first + "\"", fault(String.valueOf(first)), isLetter ? 1 : 0);
        }
        for (char next = 32; next <= 126; next++) {
            for (String full : new String[] {"s00", "s54", "t1", "t9", "p04", "p001234"}) {
                int length = full.length();
                is("fault of " + full + next, fault(full + next),
                    next == ';' ? length + 1 : length);
            }
        }
    }

    /** Each character in each place where a digit is due. */
    private void digits() {
        sentence(TEXT, "A town is a digit from 0 to 5, a bell a digit from 0 to 4, turns a digit "
            + "from 1 to 9.");
        for (char digit = 32; digit <= 126; digit++) {
            is("fault of p" + digit, fault("p" + digit), "012345".indexOf(digit) < 0 ? 1 : NONE);
            is("fault of s" + digit, fault("s" + digit), "012345".indexOf(digit) < 0 ? 1 : 2);
            is("fault of s5" + digit, fault("s5" + digit),
                "01234".indexOf(digit) < 0 ? 2 : NONE);
            is("fault of p5" + digit, fault("p5" + digit),
                digit == ';' ? 3 : "01234".indexOf(digit) < 0 ? 2 : NONE);
            is("fault of t" + digit, fault("t" + digit),
                "123456789".indexOf(digit) < 0 ? 1 : NONE);
        }
    }

    private void bellsAscend() {
        sentence(TEXT, "In \"p\" the bells ascend.");
        for (int first = 0; first <= 4; first++) {
            for (int second = 0; second <= 4; second++) {
                String text = "p3" + first + second;
                is("fault of " + text, fault(text), second > first ? NONE : 3);
            }
        }
        faults(NONE, "p0024", "p0134", "p5014", "p01234");
        faultsAtTheLast("p0021", "p0133", "p043", "p0143", "p01232", "p012344", "p04;p010");
        // A town is no bell, and the bells of the next order begin anew.
        faults(NONE, "p40", "p50;p50", "p0234;p0123");
    }

    private void ordersMean() {
        sentence(TEXT, "The orders mean: p the plan of the town is these bells, s splice a rope, "
            + "t turns.");
        BellTowns x = ring(new BellTowns(), 5, 1, 1, 1, 1, 1);
        run(x, "p5", 1);
        is("plan of no bell", x.town(5, 4), 0);
        run(x, "p501234", 1);
        is("plan of all bells", x.town(5, 4), 31);
        run(x, "p54", 1);
        is("plan of the last bell", x.town(5, 4), 16);
        run(x, "p50", 1);
        is("plan of the first bell", x.town(5, 4), 1);
        run(x, "t1", 1);
        is("the turn", x.count(0), 1);
        is("wear", x.bell(5, 0, 1), 1);
        run(x, "s50", 1);
        is("wear", x.bell(5, 0, 1), 0);
        is("tired", x.town(5, 2), 2);
        run(x, "t9", 1);
        is("the turn", x.count(0), 10);
    }

    private void run(BellTowns x, String text, int want) {
        x.clearText();
        write(x, text);
        is("run of \"" + text + "\"", x.run(), want);
    }

    private void faultIsAnIndex() {
        sentence(TEXT, "The fault of the text is the index of the first character such that no "
            + "script, of any length, begins with the characters up to and including it.");
        faults(0, "x", "xt1", "1", ";t1");
        faults(58, TWENTY.substring(0, 58) + "0", TWENTY.substring(0, 58) + "0;");
        faults(59, TWENTY + "1", TWENTY + "t", TWENTY + "~");
        faults(NONE, TWENTY, TWENTY.substring(3) + ";p0");
        // Scripts that are longer than a text can be begin with these.
        String eighteen = TWENTY.substring(0, 54);
        faults(60, TWENTY + ";", eighteen + "p01;s0", eighteen + "p012;p", eighteen + "p012;t");
        // Of several the first; what stands behind it does not matter.
        faults(1, "p6", "p6;x", "pp0", "t0;t0");
        faults(4, "t1;px", "t1;p6;p6", "t1;t0;;");
    }

    private void faultIsTheLength() {
        sentence(TEXT, "If there is no such character, but the text is not a complete script (as "
            + "the empty text), the fault is the length of the text.");
        faults(0, "");
        unfinished("p", "s", "s5", "t", "t9;", "p0;s4");
        faults(60, TWENTY + ";");
        BellTowns x = new BellTowns();
        write(x, "t1");
        is("fault of a script", x.fault(), NONE);
        x.clearText();
        is("fault of the text that is emptied", x.fault(), 0);
    }

    private void append() {
        sentence(APPEND, "Appends a character to the text.");
        BellTowns x = new BellTowns();
        x.append('t');
        x.append('1');
        is("fault of t1", x.fault(), NONE);
        sentence(APPEND, "character: 32 to 126");
        range("append", Boundaries::played, (y, character) -> y.append(character), 32, 126);
        refused("append of 't' and 65536", Boundaries::played, y -> y.append(65536 + 't'),
            BAD_VALUE);
        sentence(APPEND, "Returns the length of the text;");
        is("append to two", x.append(';'), 3);
        sentence(APPEND, "BAD_VALUE if character is out of range;");
        refused("append(31)", Boundaries::played, y -> y.append(31), BAD_VALUE);
        refused("append(127)", Boundaries::played, y -> y.append(127), BAD_VALUE);
        refused("append(31) to 60", TextBoundaries::full, y -> y.append(31), BAD_VALUE);
        refused("append(127) to 60", TextBoundaries::full, y -> y.append(127), BAD_VALUE);
        sentence(APPEND, "TOO_MANY if the text has 60 characters.");
        is("append as the 60th", write(new BellTowns(), TWENTY + ";"), 60);
        refused("append to 60", TextBoundaries::full, y -> y.append('t'), TOO_MANY);
        BellTowns z = full();
        z.clearText();
        is("append behind emptying", z.append('t'), 1);
    }

    private static BellTowns full() {
        BellTowns x = ring(new BellTowns(), 1, 4);
        write(x, TWENTY + ";");
        return x;
    }

    private void clearText() {
        sentence(CLEAR, "Empties the text.");
        BellTowns x = full();
        x.clearText();
        is("length", x.count(10), 0);
        is("fault", x.fault(), 0);
        sentence(CLEAR, "Returns the length that the text had.");
        is("of an empty text", x.clearText(), 0);
        x.append('t');
        is("of one character", x.clearText(), 1);
        is("of an empty text again", x.clearText(), 0);
        is("of 60 characters", full().clearText(), 60);
    }

    private void fault() {
        sentence(FAULT, "Returns the fault of the text.");
        faults(0, "", "x");
        faults(60, TWENTY + ";");
        sentence(FAULT, "Returns the fault;");
        BellTowns x = full();
        is("fault", x.fault(), 60);
        is("fault again", x.fault(), 60);
        changesNothing("fault", TextBoundaries::full, y -> y.fault());
        changesNothing("fault", Boundaries::played, y -> y.fault());
        sentence(FAULT, "NONE if the text is a complete script.");
        faults(NONE, "p0", TWENTY);
        is("fault of a played script", played().fault(), NONE);
    }

    private void run() {
        runOneAfterTheOther();
        runUpToTheFirstError();
        runIsOneAction();
        sentence(RUN, "The text does not change.");
        BellTowns x = played();
        is("run", x.run(), 3);
        is("length", x.count(10), 10);
        is("fault", x.fault(), NONE);
        runReturns();
        runOfNoScript();
    }

    private void runOneAfterTheOther() {
        sentence(RUN, "Carries out the orders of the text, one after the other, as the methods "
            + "do,");
        // What the second order is needs the first one; twenty orders fill the text.
        BellTowns x = ring(new BellTowns(), 0, 1);
        run(x, "t1;s00;t2;s00", 4);
        is("the turn", x.count(0), 3);
        is("wear", x.bell(0, 0, 1), 0);
        run(x, TWENTY, 20);
        is("the turn", x.count(0), 23);
        BellTowns y = ring(new BellTowns(), 2, 9, 8);
        BellTowns twin = ring(new BellTowns(), 2, 9, 8);
        y.settle(2, 8, 20);
        twin.settle(2, 8, 20);
        run(y, "p21;t3;s21;p20;t9;p201", 6);
        twin.plan(2, 2);
        twin.turns(3);
        twin.splice(2, 1);
        twin.plan(2, 1);
        twin.turns(9);
        twin.plan(2, 3);
        isTrue("the same state as by the methods", state(y).equals(state(twin)));
    }

    private void runUpToTheFirstError() {
        sentence(RUN, "up to the first one for which the method would return an error code.");
        BellTowns x = ring(new BellTowns(), 1, 9, 2);
        run(x, "p11;p12;p10", 1);
        is("plan: a bell that the town does not have", x.town(1, 4), 2);
        run(x, "p10;s12;t1", 1);
        is("no turn behind a splice of no bell", x.count(0), 0);
        run(x, "p101;s10;t1", 1);
        is("no turn behind a splice of an unworn rope", x.count(0), 0);
        run(x, "p10;t1;s10;t1;s10;s10;p1", 4);
        is("the turn", x.count(0), 2);
        is("plan", x.town(1, 4), 1);
        BellTowns y = ring(new BellTowns(), 1, 1, 1);
        ringers(y, 1, 3);
        run(y, "t1;s10;s11;t1", 2);
        is("no turn behind a splice by one ringer", y.count(0), 1);
        is("wear of the one that is not spliced", y.bell(1, 1, 1), 1);
        BellTowns z = new BellTowns();
        run(z, "t1;t1", 2);
        is("turns that answer NONE are no error", z.count(0), 2);
    }

    private void runIsOneAction() {
        sentence(RUN, "This is one action, even if no order is carried out.");
        BellTowns x = ring(new BellTowns(), 1, 9);
        is("states", x.count(9), 2);
        run(x, "p1;t1;t1", 3);
        is("states", x.count(9), 3);
        run(x, "s00", 0);
        is("states behind no order", x.count(9), 4);
        is("undo of no order", x.undo(), 3);
        is("the turn", x.count(0), 2);
        is("undo of three orders", x.undo(), 2);
        is("the turn", x.count(0), 0);
        is("plan", x.town(1, 4), 1);
    }

    private void runReturns() {
        sentence(RUN, "Returns the number of orders that are carried out;");
        BellTowns x = new BellTowns();
        run(x, "s00;t1", 0);
        run(x, "t1", 1);
        run(x, "t1;s00;t1", 1);
        run(x, TWENTY, 20);
        run(x, TWENTY.substring(0, 57) + "p0", 20);
        run(x, "p0;p1;p2;p3;p4;p5;p0;p1;p2;p3;p4;p5;p0;p1;p2;p3;p4;p5;p0;p00", 19);
        is("length", x.count(10), 60);
    }

    private void runOfNoScript() {
        sentence(RUN, "-100 minus the fault (an error code) if the text is not a complete "
            + "script.");
        refused("run of an empty text", BellTowns::new, x -> x.run(), -100);
        refused("run of 60 characters", TextBoundaries::full, x -> x.run(), -160);
        String[] texts = {"x", "t", "t1;", "t1;x", "t1;t1;s0", TWENTY.substring(0, 58) + "0",
            TWENTY + "t"};
        int[] wants = {-100, -101, -103, -103, -108, -158, -159};
        for (int i = 0; i < texts.length; i++) {
            String text = texts[i];
            refused("run of \"" + text + "\"", () -> unscripted(text), x -> x.run(), wants[i]);
        }
    }

    /** The orders before the fault would change something. */
    private static BellTowns unscripted(String text) {
        BellTowns x = played();
        x.clearText();
        write(x, text);
        return x;
    }
}
