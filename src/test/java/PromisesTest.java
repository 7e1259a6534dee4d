/** Each promise of the document: ordinary calls, the edges that it names, and wrong calls. */
public final class PromisesTest {
    private static final int NO_SUCH = BellTowns.NO_SUCH;
    private static final int BAD_VALUE = BellTowns.BAD_VALUE;
    private static final int TOO_MANY = BellTowns.TOO_MANY;
    private static final int NOT_POSSIBLE = BellTowns.NOT_POSSIBLE;
    private static final int NONE = BellTowns.NONE;
    private static final int FADE = BellTowns.FADE;
    private static final int REST = BellTowns.REST;
    private static final int[] NO_TOWN =
        {-1, 6, 7, Integer.MIN_VALUE, Integer.MAX_VALUE};
    private static final Due due = new Due();

    public static void main(String[] args) {
        aNewObject();
        hang();
        melt();
        settle();
        plan();
        splice();
        feast();
        set();
        turns();
        turnRinging();
        turnPoints();
        turnTiredAndWorn();
        turnSilence();
        append();
        clearText();
        fault();
        run();
        undo();
        save();
        restore();
        town();
        bell();
        count();
        loudness();
        heard();
        winner();
        ifPlanned();
        bestPlan();
        pointsIn();
        share();
        due.end();
    }

    private static void is(String call, double got, double want) {
        due.is(call, got, want);
    }

    private static int write(BellTowns x, String text) {
        x.clearText();
        int length = 0;
        for (int i = 0; i < text.length(); i++) {
            length = x.append(text.charAt(i));
        }
        return length;
    }

    /** A town with bells of these weights, all of them planned. */
    private static void ring(BellTowns x, int town, int... weights) {
        for (int weight : weights) {
            x.hang(town, weight);
        }
        x.plan(town, (1 << weights.length) - 1);
    }

    private static void counts(BellTowns x, int... wants) {
        for (int what = 0; what < wants.length; what++) {
            is("count(" + what + ")", x.count(what), wants[what]);
        }
    }

    private static void townIs(BellTowns x, int town, int... wants) {
        for (int what = 0; what < wants.length; what++) {
            is("town(" + town + ", " + what + ")", x.town(town, what), wants[what]);
        }
    }

    private static void bellIs(BellTowns x, int town, int bell, int... wants) {
        for (int what = 0; what < wants.length; what++) {
            is("bell(" + town + ", " + bell + ", " + what + ")", x.bell(town, bell, what),
                wants[what]);
        }
    }

    private static void aNewObject() {
        due.begin("promise 1");
        BellTowns x = new BellTowns();
        for (int town = 0; town < 6; town++) {
            townIs(x, town, 4 * town, 8, 0, 0, 0, town, 0, 0, 0);
        }
        counts(x, 0, 0, 0, 0, 0, 0, NONE, 1, 1, 0, 0);
        is("fault()", x.fault(), 0);
        is("undo()", x.undo(), NONE);
        is("restore()", x.restore(), NOT_POSSIBLE);
        BellTowns other = new BellTowns();
        other.hang(0, 9);
        other.save();
        is("bells of another object", x.count(1), 0);
        is("snapshot of another object", x.restore(), NOT_POSSIBLE);
    }

    private static void hang() {
        due.begin("promise 2");
        BellTowns x = new BellTowns();
        for (int town : NO_TOWN) {
            is("hang(" + town + ", 0)", x.hang(town, 0), NO_SUCH);
        }
        is("hang(5, 1)", x.hang(5, 1), 0);
        is("hang(5, 9)", x.hang(5, 9), 1);
        is("hang(5, 3)", x.hang(5, 3), 2);
        is("hang(5, 4)", x.hang(5, 4), 3);
        is("hang(0, 2)", x.hang(0, 2), 0);
        is("hang(5, 5)", x.hang(5, 5), 4);
        is("hang(5, 1) on five", x.hang(5, 1), TOO_MANY);
        is("hang(5, 0) on five", x.hang(5, 0), BAD_VALUE);
        is("hang(0, 10)", x.hang(0, 10), BAD_VALUE);
        is("hang(0, -1)", x.hang(0, -1), BAD_VALUE);
        townIs(x, 5, 20, 8, 0, 5, 0);
        townIs(x, 0, 0, 8, 0, 1, 0);
        bellIs(x, 5, 0, 1, 0, 1, 0, 2);
        bellIs(x, 5, 1, 9, 0, 5, 0, 2);
        is("count(1)", x.count(1), 6);
        BellTowns y = new BellTowns();
        y.hang(0, 1);
        y.hang(0, 10);
        y.hang(6, 1);
        is("states behind one hang", y.count(9), 1);
    }

    private static void melt() {
        due.begin("promise 3");
        BellTowns x = new BellTowns();
        ring(x, 1, 2, 4, 6, 8);
        x.plan(1, 0b1011);
        x.turns(1);
        is("melt(1, 1)", x.melt(1, 1), 4);
        is("bells", x.town(1, 3), 3);
        is("plan", x.town(1, 4), 0b101);
        bellIs(x, 1, 0, 2, 1, 1, 1);
        bellIs(x, 1, 1, 6, 0, 3, 0);
        bellIs(x, 1, 2, 8, 1, 4, 1);
        is("melt(1, 3)", x.melt(1, 3), NO_SUCH);
        is("melt(1, 2)", x.melt(1, 2), 8);
        is("plan", x.town(1, 4), 0b1);
        is("melt(1, 0)", x.melt(1, 0), 2);
        is("plan", x.town(1, 4), 0);
        is("hang(1, 9)", x.hang(1, 9), 1);
        bellIs(x, 1, 1, 9, 0, 5, 0);
        is("plan", x.town(1, 4), 0);
        is("melt(1, 1)", x.melt(1, 1), 9);
        is("melt(1, 0)", x.melt(1, 0), 6);
        is("melt(1, 0)", x.melt(1, 0), NO_SUCH);
        is("melt(1, -1)", x.melt(1, -1), NO_SUCH);
        is("count(1)", x.count(1), 0);
        for (int town : NO_TOWN) {
            is("melt(" + town + ", 0)", x.melt(town, 0), NO_SUCH);
        }
        meltedRopes();
        BellTowns y = new BellTowns();
        ring(y, 0, 9, 8, 7, 6, 5);
        ring(y, 1, 9, 8, 7, 6, 5);
        is("melt(0, 4)", y.melt(0, 4), 5);
        is("plan of five without the last", y.town(0, 4), 15);
        is("melt(0, 0)", y.melt(0, 0), 9);
        is("plan without the first", y.town(0, 4), 7);
        is("weight", y.bell(0, 2, 0), 6);
        is("the other town's first", y.bell(1, 0, 0), 9);
        is("the other town's plan", y.town(1, 4), 31);
        is("states", y.count(9), 5);
        y.melt(0, 3);
        y.undo();
        is("melt(0, 3) records nothing", y.town(0, 3), 4);
    }

    private static void meltedRopes() {
        BellTowns x = new BellTowns();
        ring(x, 0, 1);
        x.turns(50);
        is("broken", x.count(2), 1);
        x.melt(0, 0);
        is("broken behind melting", x.count(2), 0);
    }

    private static void settle() {
        due.begin("promise 4");
        BellTowns x = new BellTowns();
        for (int town : NO_TOWN) {
            is("settle(" + town + ", 41, 0)", x.settle(town, 41, 0), NO_SUCH);
        }
        is("settle(0, -1, 8)", x.settle(0, -1, 8), BAD_VALUE);
        is("settle(0, 41, 8)", x.settle(0, 41, 8), BAD_VALUE);
        is("settle(0, 4, 0)", x.settle(0, 4, 0), BAD_VALUE);
        is("settle(0, 4, 21)", x.settle(0, 4, 21), BAD_VALUE);
        is("settle(0, 4, 8)", x.settle(0, 4, 8), NOT_POSSIBLE);
        is("settle(5, 0, 8)", x.settle(5, 0, 8), NOT_POSSIBLE);
        is("states", x.count(9), 0);
        is("settle(0, 40, 20)", x.settle(0, 40, 20), 0);
        townIs(x, 0, 40, 20);
        is("settle(0, 40, 1)", x.settle(0, 40, 1), 0);
        is("settle(5, 0, 8)", x.settle(5, 0, 8), 0);
        townIs(x, 5, 0, 8);
        is("settle(4, 40, 8)", x.settle(4, 40, 8), NOT_POSSIBLE);
        is("states", x.count(9), 3);

        BellTowns y = new BellTowns();
        ring(y, 2, 9, 5);
        y.turns(1);
        is("tired", y.town(2, 2), 4);
        is("settle(2, 8, 4)", y.settle(2, 8, 4), 4);
        is("settle(2, 8, 20)", y.settle(2, 8, 20), 4);
        is("settle(2, 9, 3)", y.settle(2, 9, 3), 3);
        townIs(y, 2, 9, 3, 3);
        is("settle(2, 8, 20)", y.settle(2, 8, 20), 3);
    }

    private static void plan() {
        due.begin("promise 5");
        BellTowns x = new BellTowns();
        for (int town : NO_TOWN) {
            is("plan(" + town + ", 99)", x.plan(town, 99), NO_SUCH);
        }
        is("plan(3, 1)", x.plan(3, 1), BAD_VALUE);
        is("plan(3, 0)", x.plan(3, 0), 0);
        x.hang(3, 1);
        x.hang(3, 2);
        is("plan(3, 2)", x.plan(3, 2), 0);
        is("plan(3, 4)", x.plan(3, 4), BAD_VALUE);
        is("plan(3, 5)", x.plan(3, 5), BAD_VALUE);
        is("plan(3, -1)", x.plan(3, -1), BAD_VALUE);
        is("plan(3, min)", x.plan(3, Integer.MIN_VALUE), BAD_VALUE);
        is("plan(3, 3)", x.plan(3, 3), 2);
        x.hang(3, 3);
        x.hang(3, 4);
        x.hang(3, 5);
        is("plan(3, 31)", x.plan(3, 31), 3);
        is("plan(3, 32)", x.plan(3, 32), BAD_VALUE);
        is("plan(3, 16)", x.plan(3, 16), 31);
        is("town(3, 4)", x.town(3, 4), 16);
        is("town(2, 4)", x.town(2, 4), 0);
        x.undo();
        is("one state a plan", x.town(3, 4), 31);
        // The first four bells take six of the eight ringers; the last one would take three.
        is("loudness by the plan", x.loudness(3), 1 + 2 + 3 + 4);
    }

    private static void splice() {
        due.begin("promise 6");
        BellTowns x = new BellTowns();
        for (int town : NO_TOWN) {
            is("splice(" + town + ", 0)", x.splice(town, 0), NO_SUCH);
        }
        is("splice(1, 0)", x.splice(1, 0), NO_SUCH);
        ring(x, 1, 9);
        is("splice(1, -1)", x.splice(1, -1), NO_SUCH);
        is("splice(1, 1)", x.splice(1, 1), NO_SUCH);
        is("splice(1, 0) unworn", x.splice(1, 0), NOT_POSSIBLE);
        x.turns(1);
        is("tired", x.town(1, 2), 2);
        x.settle(1, 4, 3);
        is("splice(1, 0) with one rested", x.splice(1, 0), NOT_POSSIBLE);
        is("wear", x.bell(1, 0, 1), 1);
        x.settle(1, 4, 4);
        is("splice(1, 0) with two rested, silent", x.splice(1, 0), 1);
        is("tired", x.town(1, 2), 4);
        is("wear", x.bell(1, 0, 1), 0);
        is("rung so far", x.bell(1, 0, 3), 1);
        is("splice(1, 0) again", x.splice(1, 0), NOT_POSSIBLE);
        is("states", x.count(9), 5);
        is("undo()", x.undo(), 4);
        is("ringers, which are not undone", x.town(1, 1), 4);
        is("undone wear", x.bell(1, 0, 1), 1);
        is("undone tired", x.town(1, 2), 2);

        BellTowns y = new BellTowns();
        ring(y, 1, 2);
        y.turns(50);
        is("broken", y.bell(1, 0, 1), 6);
        is("splice(1, 0) of a broken rope", y.splice(1, 0), 6);
        is("no broken rope", y.count(2), 0);
        is("rings again", y.bell(1, 0, 4), 0);
        is("states", y.count(9), 4);
    }

    private static void feast() {
        due.begin("promise 7");
        BellTowns x = new BellTowns();
        for (int town : NO_TOWN) {
            is("feast(" + town + ", 9)", x.feast(town, 9), NO_SUCH);
        }
        is("feast(4, -1)", x.feast(4, -1), BAD_VALUE);
        is("feast(4, 7)", x.feast(4, 7), BAD_VALUE);
        is("states", x.count(9), 0);
        x.hang(4, 5);
        is("loudness before", x.loudness(4), 0);
        is("feast(4, 0)", x.feast(4, 0), 4);
        is("loudness on the feast", x.loudness(4), 5);
        is("feast(4, 6)", x.feast(4, 6), 0);
        is("feast(4, 6)", x.feast(4, 6), 6);
        is("town(4, 5)", x.town(4, 5), 6);
        is("town(3, 5)", x.town(3, 5), 3);
        is("states", x.count(9), 4);
    }

    private static void set() {
        due.begin("promise 8");
        BellTowns x = new BellTowns();
        is("set(-1, 99)", x.set(-1, 99), NO_SUCH);
        is("set(2, 1)", x.set(2, 1), NO_SUCH);
        is("set(max, 1)", x.set(Integer.MAX_VALUE, 1), NO_SUCH);
        is("set(FADE, -1)", x.set(FADE, -1), BAD_VALUE);
        is("set(FADE, 10)", x.set(FADE, 10), BAD_VALUE);
        is("set(REST, 0)", x.set(REST, 0), BAD_VALUE);
        is("set(REST, 4)", x.set(REST, 4), BAD_VALUE);
        is("states", x.count(9), 0);
        is("set(FADE, 9)", x.set(FADE, 9), 1);
        is("set(REST, 3)", x.set(REST, 3), 1);
        is("set(FADE, 0)", x.set(FADE, 0), 9);
        is("set(REST, 1)", x.set(REST, 1), 3);
        is("count(7)", x.count(7), 0);
        is("count(8)", x.count(8), 1);
        is("states", x.count(9), 4);
    }

    private static void turns() {
        due.begin("promise 9");
        BellTowns x = new BellTowns();
        is("turns(0)", x.turns(0), BAD_VALUE);
        is("turns(51)", x.turns(51), BAD_VALUE);
        is("turns(-1)", x.turns(-1), BAD_VALUE);
        is("turns(min)", x.turns(Integer.MIN_VALUE), BAD_VALUE);
        is("states", x.count(9), 0);
        is("turns(50)", x.turns(50), NONE);
        is("turn", x.count(0), 50);
        is("states, though none was loudest", x.count(9), 1);
        ring(x, 3, 4);
        is("turns(1)", x.turns(1), 3);
        is("turns(1)", x.turns(1), NONE);
        is("turns(3)", x.turns(3), 3);
        is("undo()", x.undo(), 4);
        is("all three turns are one action", x.count(0), 52);
    }

    /** Step 1: which bells are rung. */
    private static void turnRinging() {
        due.begin("a turn, step 1");
        BellTowns x = new BellTowns();
        x.settle(1, 4, 6);
        ring(x, 1, 9, 4, 2, 1);
        x.turns(1);
        // 5 of 6 ringers ring the first; the second needs 2, the third takes the last one.
        is("first", x.bell(1, 0, 3), 1);
        is("second", x.bell(1, 1, 3), 0);
        is("third", x.bell(1, 2, 3), 1);
        is("fourth", x.bell(1, 3, 3), 0);
        is("tired", x.town(1, 2), 3);

        BellTowns y = new BellTowns();
        y.feast(0, 3);
        y.hang(0, 3);
        y.hang(0, 2);
        y.plan(0, 2);
        for (int turn = 0; turn < 11; turn++) {
            is("loudness in turn " + turn, y.loudness(0),
                turn % 2 == 1 ? 0 : turn == 10 ? 5 : 2);
            y.turns(1);
        }
        is("rung on the feast alone", y.bell(0, 0, 3), 1);
        is("rung", y.bell(0, 1, 3), 6);
        is("turn 11 is silent", y.bell(0, 1, 4), 1);
        y.turns(1);
        is("turn 12: a broken rope", y.bell(0, 1, 4), 3);
        is("turn 12: not planned", y.bell(0, 0, 4), 2);
        y.feast(0, 12 % 7);
        is("turn 12: broken on a feast too", y.bell(0, 1, 4), 3);
        is("turn 12: the first on a feast", y.loudness(0), 3);
    }

    /** Steps 2 and 3: who is the loudest, and who gets points. */
    private static void turnPoints() {
        due.begin("a turn, steps 2 and 3");
        BellTowns x = new BellTowns();
        ring(x, 2, 5);
        ring(x, 4, 5);
        // At 8 and at 16, heard for 4 miles and a bit: 4 hears 1 of both at 12, 5 hears 1.
        is("turns(1)", x.turns(1), 2);
        is("points of 2", x.town(2, 7), 2);
        is("points of 4", x.town(4, 7), 2);
        is("points", x.count(4), 4);
        is("times loudest of 2", x.town(2, 8), 1);
        is("times loudest of 4", x.town(4, 8), 0);
        is("turns(1)", x.turns(1), 4);
        is("points of 4", x.town(4, 7), 5);

        BellTowns y = new BellTowns();
        y.set(FADE, 9);
        ring(y, 0, 1);
        ring(y, 5, 9, 5);
        is("turns(1)", y.turns(1), 5);
        is("points of 0", y.town(0, 7), 1);
        is("points of 5", y.town(5, 7), 1);

        BellTowns z = new BellTowns();
        z.set(FADE, 0);
        ring(z, 0, 3);
        ring(z, 1, 3);
        ring(z, 5, 2);
        is("turns(1)", z.turns(1), 0);
        is("no points for the alike", z.count(4), 0);
        is("turns(1)", z.turns(1), 1);
        is("all points for the loudest", z.town(1, 7), 6);
    }

    /** Step 4: worn ropes and tired ringers. */
    private static void turnTiredAndWorn() {
        due.begin("a turn, step 4");
        BellTowns x = new BellTowns();
        ring(x, 1, 9, 9);
        ring(x, 2, 9, 6);
        ring(x, 3, 6);
        // 5 ringers of town 1 ring (its second bell has 3 left), 8 of town 2, 3 of town 3.
        is("turns(1)", x.turns(1), 2);
        is("tired in 1", x.town(1, 2), 2);
        is("tired in 2", x.town(2, 2), 4);
        is("tired in 3", x.town(3, 2), 1);
        bellIs(x, 1, 0, 9, 1, 5, 1);
        bellIs(x, 1, 1, 9, 0, 5, 0);
        bellIs(x, 2, 0, 9, 1, 5, 1, 1);
        bellIs(x, 2, 1, 6, 1, 3, 1, 1);
        x.turns(1);
        is("rested in 2, which was silent", x.town(2, 2), 0);
        is("tired in 1", x.town(1, 2), 2);
        is("wear of 1", x.bell(1, 0, 1), 2);
        is("wear of 2", x.bell(2, 0, 1), 1);
        x.splice(3, 0);
        is("tired in 3 behind splicing", x.town(3, 2), 3);
        x.plan(3, 0);
        x.turns(1);
        is("rested in 3", x.town(3, 2), 0);
    }

    /** Step 5: silences. */
    private static void turnSilence() {
        due.begin("a turn, step 5");
        for (int rest = 1; rest <= 3; rest++) {
            BellTowns x = new BellTowns();
            x.set(REST, rest);
            ring(x, 1, 1);
            is("turns(1)", x.turns(1), 1);
            for (int left = rest; left > 0; left--) {
                is("silence", x.town(1, 6), left);
                is("silent towns", x.count(3), 1);
                is("loudness", x.loudness(1), 0);
                is("turns(1)", x.turns(1), NONE);
            }
            is("silence", x.town(1, 6), 0);
            is("silent towns", x.count(3), 0);
            is("turns(1)", x.turns(1), 1);
            is("turns without a loudest", x.count(5), rest);
            is("times loudest", x.town(1, 8), 2);
        }
        BellTowns y = new BellTowns();
        y.set(REST, 3);
        ring(y, 1, 3);
        ring(y, 3, 2);
        ring(y, 5, 1);
        y.turns(3);
        is("silence of 1", y.town(1, 6), 1);
        is("silence of 3", y.town(3, 6), 2);
        is("silence of 5", y.town(5, 6), 3);
        is("silent towns", y.count(3), 3);
        y.set(REST, 1);
        is("REST changes no silence", y.town(5, 6), 3);
        is("turns(1)", y.turns(1), NONE);
        is("turns(1)", y.turns(1), 1);
        is("silence of 1", y.town(1, 6), 1);
    }

    private static void append() {
        due.begin("promise 10");
        BellTowns x = new BellTowns();
        is("append(31)", x.append(31), BAD_VALUE);
        is("append(127)", x.append(127), BAD_VALUE);
        is("append(-1)", x.append(-1), BAD_VALUE);
        is("append(65536 + 112)", x.append(65536 + 112), BAD_VALUE);
        is("append(32)", x.append(32), 1);
        is("append(126)", x.append(126), 2);
        for (int length = 3; length <= 60; length++) {
            is("append('t')", x.append('t'), length);
        }
        is("append('t') on 60", x.append('t'), TOO_MANY);
        is("append(127) on 60", x.append(127), BAD_VALUE);
        is("length", x.count(10), 60);
        is("no action", x.count(9), 0);
    }

    private static void clearText() {
        due.begin("promise 11");
        BellTowns x = new BellTowns();
        is("clearText()", x.clearText(), 0);
        write(x, "p0;t1");
        is("fault()", x.fault(), NONE);
        is("clearText()", x.clearText(), 5);
        is("length", x.count(10), 0);
        is("fault()", x.fault(), 0);
        is("append('t')", x.append('t'), 1);
        is("fault()", x.fault(), 1);
        is("no action", x.count(9), 0);
    }

    private static void faultIs(BellTowns x, String text, int want) {
        write(x, text);
        is("fault of " + text, x.fault(), want);
        is("fault of " + text + " again", x.fault(), want);
        if (want != NONE) {
            is("run of " + text, x.run(), -100 - want);
        }
    }

    private static void fault() {
        due.begin("promise 12");
        BellTowns x = new BellTowns();
        String[] scripts = {"p0", "p5", "p001234", "p34", "p313", "s00", "s54", "t1", "t9",
            "p0;p1;s00;t1", "t1;t1;t1;t1;t1;t1;t1;t1;t1;t1;t1;t1;t1;t1;t1;t1;t1;t1;t1;p5"};
        for (String script : scripts) {
            faultIs(x, script, NONE);
        }
        String[] unfinished = {"", "p", "s", "s0", "t", "p0;", "p04;", "s00;", "t5;t", "t1;s4"};
        for (String text : unfinished) {
            faultIs(x, text, text.length());
        }
        String[] wrongAtTheirLast = {"x", ";", "0", " ", "P", "p6", "p-", "pp", "p/", "p05",
            "p00:", "p010", "p000", "p044", "p045", "p0t", "p0 ", "s6", "s05", "s0;", "s000",
            "s0/", "t0", "t:", "t/", "t11", "t1;;", "t1t", "s00t", "p0;x", "t1 ", "p01233", "~",
            "p0/", "p09"};
        for (String text : wrongAtTheirLast) {
            faultIs(x, text, text.length() - 1);
            if (text.length() < 60) {
                faultIs(x, text + "p0", text.length() - 1);
            }
        }
        String sixty = "t1;t1;t1;t1;t1;t1;t1;t1;t1;t1;t1;t1;t1;t1;t1;t1;t1;t1;t1;t1;";
        is("length", write(x, sixty), 60);
        is("fault of a full text", x.fault(), 60);
        is("run of a full text", x.run(), -160);
        is("no action", x.count(9), 0);
    }

    private static void run() {
        due.begin("promise 13");
        BellTowns x = new BellTowns();
        x.hang(1, 9);
        x.hang(1, 3);
        x.hang(1, 1);
        write(x, "p102;t2;s10;p1");
        is("run()", x.run(), 4);
        is("states", x.count(9), 4);
        is("turn", x.count(0), 2);
        // Turn 1 is the feast of the town 1, but it is silent then.
        is("rung", x.bell(1, 0, 3), 1);
        is("not rung", x.bell(1, 1, 3), 0);
        is("rung", x.bell(1, 2, 3), 1);
        is("spliced", x.bell(1, 0, 1), 0);
        is("not spliced", x.bell(1, 2, 1), 1);
        is("tired", x.town(1, 2), 2);
        is("plan", x.town(1, 4), 0);
        is("length of the text", x.count(10), 14);
        is("undo()", x.undo(), 3);
        is("turn", x.count(0), 0);
        is("plan", x.town(1, 4), 0);
        is("run() again", x.run(), 4);

        write(x, "p112;p13;t9");
        is("run() up to a plan without a bell", x.run(), 1);
        is("plan", x.town(1, 4), 6);
        is("turn", x.count(0), 2);
        write(x, "t1;s10;t1");
        is("run() up to an unworn rope", x.run(), 1);
        is("turn", x.count(0), 3);
        write(x, "s13");
        int before = x.count(9);
        is("run() up to no such bell", x.run(), 0);
        is("states: an action all the same", x.count(9), before == 5 ? 5 : before + 1);

        BellTowns y = new BellTowns();
        write(y, "t3;t3");
        is("run() of turns without a loudest", y.run(), 2);
        is("turn", y.count(0), 6);
        write(y, "s00");
        is("run() of nothing", y.run(), 0);
        is("states", y.count(9), 2);
        write(y, "s0");
        is("run()", y.run(), -102);
        is("states", y.count(9), 2);
        write(y, "t9;t9;t9;t9;t9;t9;t9;t9;t9;t9;t9;t9;t9;t9;t9;t9;t9;t9;t9;p5");
        is("run() of twenty orders", y.run(), 20);
        is("turn", y.count(0), 6 + 171);
        write(y, "p5");
        is("run()", y.run(), 1);
        is("undo()", y.undo(), 3);
        is("undo()", y.undo(), 2);
        is("turn", y.count(0), 6);
    }

    private static void undo() {
        due.begin("promise 14");
        BellTowns x = new BellTowns();
        for (int weight = 1; weight <= 5; weight++) {
            x.hang(0, weight);
        }
        x.set(FADE, 7);
        x.plan(0, 31);
        write(x, "t1");
        is("states", x.count(9), 5);
        is("undo()", x.undo(), 4);
        is("plan", x.town(0, 4), 0);
        is("undo()", x.undo(), 3);
        is("fade", x.count(7), 1);
        is("undo()", x.undo(), 2);
        is("bells", x.town(0, 3), 4);
        is("hang(0, 9)", x.hang(0, 9), 4);
        is("undo()", x.undo(), 2);
        is("undo()", x.undo(), 1);
        is("undo()", x.undo(), 0);
        is("bells", x.town(0, 3), 2);
        is("undo()", x.undo(), NONE);
        is("bells", x.town(0, 3), 2);
        is("the text", x.count(10), 2);

        BellTowns y = new BellTowns();
        ring(y, 2, 9);
        y.save();
        y.turns(1);
        y.turns(1);
        is("undo()", y.undo(), 3);
        is("undo()", y.undo(), 2);
        counts(y, 0, 1, 0, 0, 0, 0, NONE, 1, 1, 2, 0);
        townIs(y, 2, 8, 8, 0, 1, 1, 2, 0, 0, 0);
        bellIs(y, 2, 0, 9, 0, 5, 0, 0);
        y.melt(2, 0);
        is("undo()", y.undo(), 2);
        y.undo();
        is("restore() behind undo()", y.restore(), 0);
        is("the snapshot's plan", y.town(2, 4), 1);
        for (int action = 0; action < 12; action++) {
            y.feast(0, action % 7);
        }
        for (int left = 4; left >= 0; left--) {
            is("undo()", y.undo(), left);
            is("feast", y.town(0, 5), (left + 6) % 7);
        }
    }

    private static void save() {
        due.begin("promise 15");
        BellTowns x = new BellTowns();
        is("save()", x.save(), 0);
        is("no action", x.count(9), 0);
        x.turns(9);
        is("save()", x.save(), 9);
        x.turns(9);
        is("restore() of the later snapshot", x.restore(), 9);
        is("save() changes nothing", x.save(), 9);
        is("turn", x.count(0), 9);
        is("states", x.count(9), 3);
    }

    private static void restore() {
        due.begin("promise 16");
        BellTowns x = new BellTowns();
        is("restore()", x.restore(), NOT_POSSIBLE);
        is("states", x.count(9), 0);
        ring(x, 0, 8, 7);
        x.settle(1, 40, 2);
        x.feast(0, 6);
        x.set(FADE, 3);
        x.set(REST, 2);
        x.turns(4);
        x.save();
        write(x, "p0");
        x.melt(0, 0);
        x.settle(1, 39, 3);
        x.feast(0, 5);
        x.set(FADE, 4);
        x.set(REST, 3);
        x.turns(5);
        is("restore()", x.restore(), 4);
        // Turns 0 and 3 are rung; each time it is heard 4 miles away still (8 + 7 - 12).
        counts(x, 4, 2, 0, 1, 2, 2, 0, 3, 2, 5, 2);
        townIs(x, 0, 0, 8, 4, 2, 3, 6, 2, 2, 2);
        townIs(x, 1, 40, 2, 0, 0, 0, 1, 0, 0, 0);
        bellIs(x, 0, 0, 8, 2, 4, 2, 1);
        bellIs(x, 0, 1, 7, 2, 4, 2, 1);
        x.turns(1);
        is("restore() again", x.restore(), 4);
        is("undo() of restore()", x.undo(), 4);
        is("turn", x.count(0), 5);
    }

    private static void town() {
        due.begin("promise 17");
        BellTowns x = new BellTowns();
        x.settle(3, 11, 9);
        ring(x, 3, 8, 6);
        x.plan(3, 2);
        x.feast(3, 6);
        x.set(REST, 3);
        x.turns(1);
        // 6 at the milestone 11: heard in 8 (3) and 16 (1), and at home.
        townIs(x, 3, 11, 9, 1, 2, 2, 6, 3, 3, 1, BAD_VALUE);
        is("town(3, -1)", x.town(3, -1), BAD_VALUE);
        is("town(3, max)", x.town(3, Integer.MAX_VALUE), BAD_VALUE);
        for (int town : NO_TOWN) {
            is("town(" + town + ", 0)", x.town(town, 0), NO_SUCH);
            is("town(" + town + ", 9)", x.town(town, 9), NO_SUCH);
        }
    }

    private static void bell() {
        due.begin("promise 18");
        BellTowns x = new BellTowns();
        for (int weight = 1; weight <= 9; weight++) {
            int town = weight / 5 + 1;
            int bell = x.hang(town, weight);
            is("ringers for " + weight, x.bell(town, bell, 2), (weight + 1) / 2);
        }
        is("bell(1, 0, 5)", x.bell(1, 0, 5), BAD_VALUE);
        is("bell(1, 0, -1)", x.bell(1, 0, -1), BAD_VALUE);
        is("bell(1, 4, 5)", x.bell(1, 4, 5), NO_SUCH);
        is("bell(1, -1, 0)", x.bell(1, -1, 0), NO_SUCH);
        is("bell(1, max, 0)", x.bell(1, Integer.MAX_VALUE, 0), NO_SUCH);
        for (int town : NO_TOWN) {
            is("bell(" + town + ", 0, 5)", x.bell(town, 0, 5), NO_SUCH);
        }

        BellTowns y = new BellTowns();
        y.settle(0, 0, 5);
        ring(y, 0, 1, 9, 8, 1);
        y.plan(0, 0b0111);
        y.feast(0, 6);
        // The first takes one of five ringers, the second finds four, the third takes them.
        bellIs(y, 0, 0, 1, 0, 1, 0, 0);
        bellIs(y, 0, 1, 9, 0, 5, 0, 4);
        bellIs(y, 0, 2, 8, 0, 4, 0, 0);
        bellIs(y, 0, 3, 1, 0, 1, 0, 2);
        y.turns(1);
        bellIs(y, 0, 0, 1, 1, 1, 1, 1);
        bellIs(y, 0, 3, 1, 0, 1, 0, 1);
        y.turns(1);
        y.plan(0, 1);
        y.turns(10);
        is("broken", y.bell(0, 0, 1), 6);
        y.plan(0, 15);
        is("reason: broken", y.bell(0, 0, 4), 3);
        is("reason: rung, as the broken one needs none", y.bell(0, 1, 4), 0);
        is("reason: too few", y.bell(0, 2, 4), 4);
        y.plan(0, 14);
        is("reason: not wanted before broken", y.bell(0, 0, 4), 2);
        is("rung so far", y.bell(0, 0, 3), 6);
        tooFewBehindTired();
    }

    private static void tooFewBehindTired() {
        BellTowns x = new BellTowns();
        ring(x, 1, 9, 6);
        ring(x, 4, 9, 9);
        x.settle(4, 16, 20);
        x.turns(1);
        is("tired", x.town(1, 2), 4);
        is("five of four", x.bell(1, 0, 4), 4);
        is("three of four", x.bell(1, 1, 4), 0);
        is("loudness", x.loudness(1), 6);
    }

    private static void count() {
        due.begin("promise 19");
        BellTowns x = new BellTowns();
        is("count(-1)", x.count(-1), BAD_VALUE);
        is("count(11)", x.count(11), BAD_VALUE);
        is("count(max)", x.count(Integer.MAX_VALUE), BAD_VALUE);
        ring(x, 1, 1);
        ring(x, 4, 2, 2);
        x.set(FADE, 5);
        x.set(REST, 3);
        write(x, "abc");
        x.turns(1);
        // The town 4 is the loudest; both are heard at home alone.
        counts(x, 1, 3, 0, 1, 2, 0, 4, 5, 3, 5, 3);
        x.turns(1);
        counts(x, 2, 3, 0, 2, 3, 0, 1, 5, 3, 5, 3);
        x.turns(1);
        counts(x, 3, 3, 0, 2, 3, 1, NONE, 5, 3, 5, 3);
        x.turns(50);
        // The town 4 rings in the turns 0, 4, .. 20, the town 1 in 0, 1, 5, .. 17.
        counts(x, 53, 3, 3, 0, 6 + 6, 53 - 6 - 5, NONE, 5, 3, 5, 3);
        x.undo();
        counts(x, 3, 3, 0, 2, 3, 1, NONE, 5, 3, 4, 3);
        x.undo();
        is("the loudest of the latest turn", x.count(6), 1);
    }

    private static void loudness() {
        due.begin("promise 20");
        BellTowns x = new BellTowns();
        for (int town : NO_TOWN) {
            is("loudness(" + town + ")", x.loudness(town), NO_SUCH);
        }
        is("loudness(0)", x.loudness(0), 0);
        ring(x, 5, 9, 2, 2, 1);
        is("loudness(5)", x.loudness(5), 14);
        x.plan(5, 6);
        is("loudness(5)", x.loudness(5), 4);
        x.feast(5, 0);
        is("loudness(5) on the feast", x.loudness(5), 14);
        x.settle(5, 20, 5);
        is("loudness(5) with five ringers", x.loudness(5), 9);
        x.settle(5, 20, 1);
        is("loudness(5) with one ringer", x.loudness(5), 2);
        x.turns(1);
        is("loudness(5) in silence", x.loudness(5), 0);
        is("states", x.count(9), 5);
    }

    private static void heard() {
        due.begin("promise 21");
        BellTowns x = new BellTowns();
        for (int town : NO_TOWN) {
            is("heard(" + town + ", 0)", x.heard(town, 0), NO_SUCH);
            is("heard(0, " + town + ")", x.heard(0, town), NO_SUCH);
        }
        ring(x, 2, 6);
        x.set(FADE, 2);
        x.settle(3, 10, 8);
        is("heard(2, 2)", x.heard(2, 2), 6);
        is("heard(2, 3)", x.heard(2, 3), 2);
        is("heard(3, 2)", x.heard(3, 2), 0);
        is("heard(2, 1)", x.heard(2, 1), 0);
        x.settle(2, 5, 8);
        is("heard(2, 1)", x.heard(2, 1), 4);
        x.settle(2, 7, 8);
        is("heard(2, 1) at the end of the sound", x.heard(2, 1), 0);
        x.set(FADE, 0);
        is("heard(2, 5) without fading", x.heard(2, 5), 6);
        x.turns(1);
        is("heard(2, 2) in silence", x.heard(2, 2), 0);
    }

    private static void winner() {
        due.begin("promise 22");
        BellTowns x = new BellTowns();
        for (int town : NO_TOWN) {
            is("winner(" + town + ")", x.winner(town), NO_SUCH);
        }
        is("winner(0)", x.winner(0), NONE);
        ring(x, 1, 9);
        ring(x, 3, 9);
        int[] wants = {1, 1, NONE, 3, 3, NONE};
        x.set(FADE, 1);
        x.settle(5, 30, 8);
        for (int ear = 0; ear < 6; ear++) {
            is("winner(" + ear + ")", x.winner(ear), wants[ear]);
        }
        ring(x, 2, 5);
        is("winner(2) alike with the most, three", x.winner(2), NONE);
        x.hang(2, 1);
        x.plan(2, 3);
        is("winner(2) above the alike", x.winner(2), 2);
        x.plan(2, 0);
        x.set(FADE, 0);
        is("winner(1) alike without fading", x.winner(1), NONE);
        ring(x, 5, 9, 1);
        is("winner(1) alone with the most", x.winner(1), 5);
        x.melt(5, 1);
        x.settle(1, 4, 4);
        x.settle(3, 12, 4);
        is("winner(1) if both are too few", x.winner(1), 5);
    }

    private static void ifPlanned() {
        due.begin("promise 23");
        BellTowns x = new BellTowns();
        for (int town : NO_TOWN) {
            is("ifPlanned(" + town + ", 99)", x.ifPlanned(town, 99), NO_SUCH);
        }
        is("ifPlanned(1, 1)", x.ifPlanned(1, 1), BAD_VALUE);
        is("ifPlanned(1, 0)", x.ifPlanned(1, 0), 0);
        x.hang(1, 4);
        x.hang(1, 5);
        is("ifPlanned(1, 4)", x.ifPlanned(1, 4), BAD_VALUE);
        is("ifPlanned(1, -1)", x.ifPlanned(1, -1), BAD_VALUE);
        is("ifPlanned(1, 32)", x.ifPlanned(1, 32), BAD_VALUE);
        is("ifPlanned(1, 0)", x.ifPlanned(1, 0), 0);
        is("ifPlanned(1, 1)", x.ifPlanned(1, 1), 1);
        is("ifPlanned(1, 2)", x.ifPlanned(1, 2), 3);
        is("ifPlanned(1, 3)", x.ifPlanned(1, 3), 4);
        is("the plan", x.town(1, 4), 0);
        is("states", x.count(9), 2);
        is("loudness", x.loudness(1), 0);
        x.feast(1, 0);
        is("ifPlanned(1, 0) on the feast", x.ifPlanned(1, 0), 4);
        x.set(FADE, 0);
        is("ifPlanned(1, 0) on the feast", x.ifPlanned(1, 0), 6);
        x.turns(1);
        is("ifPlanned(1, 3) in silence", x.ifPlanned(1, 3), 0);
    }

    private static void bestPlan() {
        due.begin("promise 24");
        BellTowns x = new BellTowns();
        for (int town : NO_TOWN) {
            is("bestPlan(" + town + ")", x.bestPlan(town), NO_SUCH);
        }
        is("bestPlan(2)", x.bestPlan(2), 0);
        x.hang(2, 3);
        is("bestPlan(2) of one bell", x.bestPlan(2), 1);
        x.hang(2, 2);
        x.hang(2, 1);
        x.feast(2, 5);
        // From a loudness of 5 on it is heard in the next towns too.
        is("bestPlan(2)", x.bestPlan(2), 0b011);
        x.settle(2, 8, 3);
        is("bestPlan(2) with three ringers", x.bestPlan(2), 0b011);
        x.settle(2, 8, 2);
        is("bestPlan(2) with two ringers", x.bestPlan(2), 0b100);
        x.set(FADE, 9);
        x.hang(2, 1);
        is("bestPlan(2), of two alike the least number", x.bestPlan(2), 0b0100);
        x.set(FADE, 0);
        is("bestPlan(2) without fading", x.bestPlan(2), 0b0100);
        ring(x, 3, 1);
        is("bestPlan(2) above another", x.bestPlan(2), 0b0010);
        is("the plan", x.town(2, 4), 0);
        x.feast(2, 0);
        is("bestPlan(2) on its feast", x.bestPlan(2), 0);
        x.turns(1);
        is("bestPlan(2) in silence", x.bestPlan(2), 0);
        bestOfSeveral();
    }

    private static void bestOfSeveral() {
        BellTowns x = new BellTowns();
        x.settle(4, 16, 20);
        x.set(FADE, 0);
        for (int weight : new int[] {3, 2, 1, 3, 1}) {
            x.hang(4, weight);
        }
        ring(x, 5, 3);
        // The least loudness above 3 is 4: 3 and 1, 2 and 1 and 1, 1 and 3, ...
        is("bestPlan(4)", x.bestPlan(4), 0b00101);
        x.melt(5, 0);
        ring(x, 5, 9, 1);
        is("bestPlan(4) of all", x.bestPlan(4), 0);
        x.melt(5, 1);
        is("bestPlan(4) of all bells", x.bestPlan(4), 0b11111);
    }

    private static void pointsIn() {
        due.begin("promise 25");
        BellTowns x = new BellTowns();
        for (int town : NO_TOWN) {
            is("pointsIn(" + town + ", 0)", x.pointsIn(town, 0), NO_SUCH);
        }
        is("pointsIn(0, 0)", x.pointsIn(0, 0), BAD_VALUE);
        is("pointsIn(0, 51)", x.pointsIn(0, 51), BAD_VALUE);
        is("pointsIn(0, -1)", x.pointsIn(0, -1), BAD_VALUE);
        ring(x, 0, 9);
        ring(x, 5, 9);
        x.plan(5, 0);
        // Rung in the turns 0, 2, .. 10, then the rope is broken: 3 towns hear it each time.
        int[] wants = {3, 3, 6, 6, 9, 6 + 3};
        for (int many = 1; many <= 5; many++) {
            is("pointsIn(0, " + many + ")", x.pointsIn(0, many), wants[many - 1]);
        }
        is("pointsIn(0, 50)", x.pointsIn(0, 50), 18);
        // Its feast is the turn 5, in which the town 0 is silent.
        is("pointsIn(5, 5)", x.pointsIn(5, 5), 0);
        is("pointsIn(5, 6)", x.pointsIn(5, 6), 3);
        is("turn", x.count(0), 0);
        is("points", x.count(4), 0);
        is("wear", x.bell(0, 0, 1), 0);
        is("states", x.count(9), 5);
        x.turns(2);
        is("pointsIn(0, 1), points so far too", x.pointsIn(0, 1), 6);
        is("points", x.town(0, 7), 3);
        x.turns(48);
        is("points", x.town(0, 7), 18);
        is("pointsIn(0, 1)", x.pointsIn(0, 1), 18);
    }

    private static void share() {
        due.begin("promise 26");
        BellTowns x = new BellTowns();
        is("share(0)", x.share(0), 0.0);
        is("share(6)", x.share(6), 0.0);
        ring(x, 0, 5);
        ring(x, 3, 6);
        x.turns(1);
        // The town 0 is heard in 0 and 1, the town 3 in 2, 3 and 4.
        is("share(0)", x.share(0), 2.0 / 5.0);
        is("share(3)", x.share(3), 3.0 / 5.0);
        is("share(1)", x.share(1), 0.0);
        for (int town : NO_TOWN) {
            is("share(" + town + ")", x.share(town), 0.0);
        }
        x.undo();
        is("share(0) behind undo()", x.share(0), 0.0);
    }
}
