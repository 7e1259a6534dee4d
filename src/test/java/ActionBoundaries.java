import java.util.function.Supplier;

/** The promises 1 to 9. */
final class ActionBoundaries extends Boundaries {
    private static final String NEW = "Promise 1";
    private static final String HANG = "Promise 2";
    private static final String MELT = "Promise 3";
    private static final String SETTLE = "Promise 4";
    private static final String PLAN = "Promise 5";
    private static final String SPLICE = "Promise 6";
    private static final String FEAST = "Promise 7";
    private static final String SET = "Promise 8";
    private static final String TURNS = "Promise 9";

    ActionBoundaries(Due due, Sentences sentences) {
        super(due, sentences);
    }

    @Override
    void all() {
        newObject();
        hang();
        hangOnFive();
        melt();
        meltedFromThePlan();
        settle();
        settleTired();
        settleAtAnother();
        plan();
        planBells();
        splice();
        spliceNotPossible();
        feast();
        set();
        turns();
    }

    /** Each town has all five bells, worn by a few turns. */
    private static BellTowns hung() {
        BellTowns x = new BellTowns();
        for (int town = 0; town <= 5; town++) {
            ring(x, town, 1, 2, 3, 1, 2);
        }
        x.save();
        x.turns(3);
        return x;
    }

    private void newObject() {
        sentence(NEW, "Creates six towns without bells, before the turn 0, with an empty text and "
            + "an empty history, without a snapshot.");
        BellTowns x = new BellTowns();
        is("the last town", x.town(5, 3), 0);
        is("the town behind it", x.town(6, 3), NO_SUCH);
        is("bells", x.count(1), 0);
        is("the turn", x.count(0), 0);
        is("the loudest of the latest turn", x.count(6), NONE);
        is("turns without a loudest", x.count(5), 0);
        is("the text", x.count(10), 0);
        is("the history", x.count(9), 0);
        is("undo", x.undo(), NONE);
        is("restore", x.restore(), NOT_POSSIBLE);
        BellTowns other = played();
        isTrue("a new object beside another", view(x).equals(view(new BellTowns())));
        isTrue("another", !view(x).equals(view(other)));
    }

    private void hang() {
        sentence(HANG, "Hangs a bell.");
        BellTowns x = new BellTowns();
        x.hang(2, 7);
        is("bells", x.town(2, 3), 1);
        is("wear", x.bell(2, 0, 1), 0);
        is("rung", x.bell(2, 0, 3), 0);
        is("plan", x.town(2, 4), 0);
        sentence(HANG, "town: 0 to 5");
        towns("hang", BellTowns::new, (y, town) -> y.hang(town, 5), 0, 0);
        sentence(HANG, "weight: 1 to 9");
        range("hang with the weight", Boundaries::played, (y, weight) -> y.hang(1, weight), 1, 9);
        sentence(HANG, "Returns its number;");
        for (int number = 1; number <= 4; number++) {
            is("hang", x.hang(2, 1), number);
        }
        is("hang in another town", x.hang(3, 1), 0);
        sentence(HANG, "NO_SUCH if there is no such town;");
        refused("hang(6, 1)", Boundaries::played, y -> y.hang(6, 1), NO_SUCH);
        refused("hang(6, 10)", Boundaries::played, y -> y.hang(6, 10), NO_SUCH);
        refused("hang(-1, 0)", Boundaries::played, y -> y.hang(-1, 0), NO_SUCH);
        sentence(HANG, "BAD_VALUE if weight is out of range;");
        refused("hang(3, 0) on five", Boundaries::played, y -> y.hang(3, 0), BAD_VALUE);
        refused("hang(3, 10) on five", Boundaries::played, y -> y.hang(3, 10), BAD_VALUE);
    }

    private void hangOnFive() {
        sentence(HANG, "TOO_MANY if the town has 5 bells.");
        refused("hang(3, 1) on five", Boundaries::played, y -> y.hang(3, 1), TOO_MANY);
        for (int town = 0; town <= 5; town++) {
            is("hang on five", hung().hang(town, 9), TOO_MANY);
        }
        BellTowns x = hung();
        is("bells of all towns", x.count(1), 30);
        x.melt(5, 0);
        is("hang as the fifth again", x.hang(5, 9), 4);
        is("hang on five again", x.hang(5, 9), TOO_MANY);
        x.undo();
        is("hang as the fifth behind undo", x.hang(5, 8), 4);
    }

    private void melt() {
        sentence(MELT, "Melts a bell:");
        BellTowns x = new BellTowns();
        x.hang(0, 6);
        x.melt(0, 0);
        is("bells", x.town(0, 3), 0);
        is("bells in all", x.count(1), 0);
        sentence(MELT, "it is gone;");
        is("the bell 0", x.bell(0, 0, 0), NO_SUCH);
        is("melt again", x.melt(0, 0), NO_SUCH);
        sentence(MELT, "town: 0 to 5");
        towns("melt the bell 4", ActionBoundaries::hung, (y, town) -> y.melt(town, 4), 2, 2);
        sentence(MELT, "bell: number of a bell");
        int[] weights = {1, 2, 3, 1, 2};
        for (int bell = 0; bell <= 4; bell++) {
            is("melt of the bell " + bell, hung().melt(5, bell), weights[bell]);
        }
        for (int bell : new int[] {LEAST, -1, 5, GREATEST}) {
            refused("melt of the bell " + bell, ActionBoundaries::hung, y -> y.melt(5, bell),
                NO_SUCH);
        }
        sentence(MELT, "Returns its weight;");
        is("melt of 1", ring(new BellTowns(), 4, 1).melt(4, 0), 1);
        is("melt of 9", ring(new BellTowns(), 4, 9).melt(4, 0), 9);
        sentence(MELT, "NO_SUCH if there is no such town or bell.");
        refused("melt(6, 0)", Boundaries::played, y -> y.melt(6, 0), NO_SUCH);
        refused("melt(1, 0) of none", Boundaries::played, y -> y.melt(1, 0), NO_SUCH);
        refused("melt(2, 1) of one", Boundaries::played, y -> y.melt(2, 1), NO_SUCH);
        refused("melt(2, -1)", Boundaries::played, y -> y.melt(2, -1), NO_SUCH);
    }

    /** Each of five bells out of each plan, so the plan without it moves up behind it. */
    private void meltedFromThePlan() {
        sentence(MELT, "the numbers of the bells behind it become 1 less, also in the plan of the "
            + "town.");
        for (int melted = 0; melted <= 4; melted++) {
            for (int plan = 0; plan <= 31; plan++) {
                BellTowns x = ring(new BellTowns(), 5, 1, 3, 5, 7, 9);
                x.plan(5, plan);
                x.melt(5, melted);
                int want = 0;
                for (int bell = 0; bell <= 4; bell++) {
                    int number = bell < melted ? bell : bell - 1;
                    if (bell != melted) {
                        want += (plan / (1 << bell)) % 2 * (1 << number);
                        is("weight of " + number, x.bell(5, number, 0), 1 + 2 * bell);
                    }
                }
                is("plan " + plan + " without " + melted, x.town(5, 4), want);
                is("the bell 4", x.bell(5, 4, 0), NO_SUCH);
            }
        }
        BellTowns y = ring(ring(new BellTowns(), 2, 1, 3, 5), 3, 2, 2, 2);
        y.plan(2, 0b101);
        y.feast(2, 6);
        y.turns(1);
        y.splice(2, 2);
        y.turns(3);
        y.melt(2, 0);
        // Rung in the turns 0 and 2, as the towns 2 and 3 are the loudest by turns.
        is("weight of the one behind", y.bell(2, 0, 0), 3);
        is("wear of the one behind", y.bell(2, 0, 1), 0);
        is("rung, the one behind", y.bell(2, 0, 3), 0);
        is("weight of the second one behind", y.bell(2, 1, 0), 5);
        is("wear of the second one behind", y.bell(2, 1, 1), 1);
        is("rung, the second one behind", y.bell(2, 1, 3), 2);
        is("plan of another town", y.town(3, 4), 7);
        is("bells of another town", y.town(3, 3), 3);
        y.hang(2, 4);
        is("wear of a new bell", y.bell(2, 2, 1), 0);
        is("rung, a new bell", y.bell(2, 2, 3), 0);
        is("plan without the new bell", y.town(2, 4), 0b10);
    }

    private void settle() {
        sentence(SETTLE, "Moves a town, and changes its ringers.");
        BellTowns x = new BellTowns();
        x.settle(3, 33, 15);
        is("milestone", x.town(3, 0), 33);
        is("ringers", x.town(3, 1), 15);
        is("milestone of another", x.town(2, 0), 8);
        is("ringers of another", x.town(2, 1), 8);
        sentence(SETTLE, "town: 0 to 5");
        towns("settle", BellTowns::new, (y, town) -> y.settle(town, 30, 8), 0, 0);
        sentence(SETTLE, "milestone: 0 to 40");
        for (int mile = 0; mile <= 40; mile++) {
            boolean isTaken = mile % 4 == 0 && mile <= 16;
            BellTowns y = new BellTowns();
            is("settle at " + mile, y.settle(5, mile, 8), isTaken ? NOT_POSSIBLE : 0);
            is("milestone", y.town(5, 0), isTaken ? 20 : mile);
        }
        is("settle at 0, which is its own", new BellTowns().settle(0, 0, 8), 0);
        sentence(SETTLE, "ringers: 1 to 20");
        range("settle with the ringers", Boundaries::played, (y, many) -> y.settle(1, 4, many),
            1, 20);
        sentence(SETTLE, "NO_SUCH if there is no such town;");
        refused("settle(6, 30, 8)", Boundaries::played, y -> y.settle(6, 30, 8), NO_SUCH);
        refused("settle(6, 41, 21)", Boundaries::played, y -> y.settle(6, 41, 21), NO_SUCH);
        sentence(SETTLE, "BAD_VALUE if milestone or ringers is out of range;");
        int[][] bad = {{LEAST, 8}, {-1, 8}, {41, 8}, {GREATEST, 8}, {30, 0}, {30, 21}, {8, 0},
            {8, 21}, {-1, 0}, {41, 21}, {4, 0}, {4, 21}};
        for (int[] pair : bad) {
            refused("settle(1, " + pair[0] + ", " + pair[1] + ")", Boundaries::played,
                y -> y.settle(1, pair[0], pair[1]), BAD_VALUE);
        }
    }

    /** Four of the eight ringers of the town 1 are tired, and the town is silent. */
    private static BellTowns tired() {
        BellTowns x = ring(new BellTowns(), 1, 8, 8);
        x.turns(1);
        return x;
    }

    private void settleTired() {
        sentence(SETTLE, "(If fewer ringers are left than are tired, all of them are tired.)");
        for (int ringers = 1; ringers <= 20; ringers++) {
            BellTowns x = tired();
            int want = ringers == 1 ? 1 : ringers == 2 ? 2 : ringers == 3 ? 3 : 4;
            is("settle with " + ringers, x.settle(1, 4, ringers), want);
            is("tired", x.town(1, 2), want);
            is("ringers", x.town(1, 1), ringers);
        }
        sentence(SETTLE, "Returns the number of tired ringers then;");
        BellTowns y = tired();
        is("settle with five", y.settle(1, 5, 5), 4);
        is("settle with four", y.settle(1, 6, 4), 4);
        is("settle with three", y.settle(1, 7, 3), 3);
        is("settle with twenty", y.settle(1, 4, 20), 3);
        is("settle of a town with none tired", y.settle(0, 1, 1), 0);
    }

    private void settleAtAnother() {
        sentence(SETTLE, "NOT_POSSIBLE if another town is at this milestone.");
        BellTowns x = new BellTowns();
        is("at its own milestone", x.settle(2, 8, 9), 0);
        refused("at the milestone of the first", BellTowns::new, y -> y.settle(5, 0, 9),
            NOT_POSSIBLE);
        refused("at the milestone of the last", BellTowns::new, y -> y.settle(0, 20, 9),
            NOT_POSSIBLE);
        refused("at the milestone of the next", Boundaries::played, y -> y.settle(3, 8, 9),
            NOT_POSSIBLE);
        is("beside another", x.settle(3, 9, 9), 0);
        is("where it was", x.settle(2, 12, 9), 0);
        is("where another is now", x.settle(2, 9, 9), NOT_POSSIBLE);
        is("where nobody is any more", x.settle(3, 8, 9), 0);
        is("at the last milestone", x.settle(3, 40, 9), 0);
        is("at the last milestone too", x.settle(4, 40, 9), NOT_POSSIBLE);
    }

    private void plan() {
        sentence(PLAN, "Changes the plan of a town.");
        BellTowns x = ring(ring(new BellTowns(), 2, 1, 2), 3, 3);
        x.plan(2, 2);
        is("plan", x.town(2, 4), 2);
        is("plan of another", x.town(3, 4), 1);
        sentence(PLAN, "town: 0 to 5");
        towns("plan", ActionBoundaries::hung, (y, town) -> y.plan(town, 4), 31, 31);
        sentence(PLAN, "bells: 0 to 31: the bells, as a bit mask in which bit k stands for the "
            + "bell k");
        range("plan", ActionBoundaries::hung, (y, bells) -> y.plan(5, bells), 0, 31);
        for (int bell = 0; bell <= 4; bell++) {
            BellTowns y = ring(new BellTowns(), 5, 1, 2, 3, 1, 2);
            y.plan(5, 1 << bell);
            for (int other = 0; other <= 4; other++) {
                is("reason of " + other, y.bell(5, other, 4), other == bell ? 0 : 2);
            }
        }
        sentence(PLAN, "Returns the previous plan, as a bit mask;");
        is("the first plan", x.plan(2, 3), 2);
        is("the second plan", x.plan(2, 0), 3);
        is("no bell", x.plan(2, 1), 0);
        is("the plan of five", hung().plan(0, 0), 31);
        sentence(PLAN, "NO_SUCH if there is no such town;");
        refused("plan(6, 0)", Boundaries::played, y -> y.plan(6, 0), NO_SUCH);
        refused("plan(-1, 32)", Boundaries::played, y -> y.plan(-1, 32), NO_SUCH);
    }

    private void planBells() {
        sentence(PLAN, "BAD_VALUE if bells is out of range, or has a bell that the town does not "
            + "have.");
        refused("plan(3, -1)", Boundaries::played, y -> y.plan(3, -1), BAD_VALUE);
        refused("plan(3, 32)", Boundaries::played, y -> y.plan(3, 32), BAD_VALUE);
        refused("plan(1, 1) of no bell", Boundaries::played, y -> y.plan(1, 1), BAD_VALUE);
        for (int bells = 0; bells <= 5; bells++) {
            BellTowns x = new BellTowns();
            for (int bell = 0; bell < bells; bell++) {
                x.hang(4, 1);
            }
            for (int mask = 0; mask <= 33; mask++) {
                boolean isTheirs = mask < 1 << bells;
                is("plan " + mask + " of " + bells, x.plan(4, mask) == BAD_VALUE ? 0 : 1,
                    isTheirs ? 1 : 0);
            }
        }
    }

    private void splice() {
        sentence(SPLICE, "Splices the rope of a bell: its wear becomes 0.");
        BellTowns x = tired();
        x.splice(1, 1);
        is("wear", x.bell(1, 1, 1), 0);
        is("wear of the other", x.bell(1, 0, 1), 1);
        sentence(SPLICE, "This takes two ringers of the town who are not tired; they are tired "
            + "then.");
        is("tired", x.town(1, 2), 6);
        x.splice(1, 0);
        is("tired", x.town(1, 2), 8);
        is("tired elsewhere", x.town(0, 2), 0);
        sentence(SPLICE, "town: 0 to 5");
        towns("splice", ActionBoundaries::hung, (y, town) -> y.splice(town, 0), 2, 3);
        sentence(SPLICE, "bell: number of a bell");
        // In the turn 1 three ringers are tired, and none is left for the bell 4.
        int[] wears = {3, 3, 3, 3, 2};
        for (int bell = 0; bell <= 4; bell++) {
            is("splice of the bell " + bell, hung().splice(5, bell), wears[bell]);
        }
        for (int bell : new int[] {LEAST, -1, 5, GREATEST}) {
            refused("splice of the bell " + bell, ActionBoundaries::hung, y -> y.splice(5, bell),
                NO_SUCH);
        }
        sentence(SPLICE, "Returns the wear that it had;");
        BellTowns z = ring(new BellTowns(), 1, 2);
        for (int wear = 1; wear <= 6; wear++) {
            z.turns(2 * wear);
            is("splice", z.splice(1, 0), wear);
        }
        sentence(SPLICE, "NO_SUCH if there is no such town or bell;");
        refused("splice(6, 0)", Boundaries::played, y -> y.splice(6, 0), NO_SUCH);
        refused("splice(-1, 0)", Boundaries::played, y -> y.splice(-1, 0), NO_SUCH);
        refused("splice(1, 0) of none", Boundaries::played, y -> y.splice(1, 0), NO_SUCH);
        refused("splice(2, 1) of one", Boundaries::played, y -> y.splice(2, 1), NO_SUCH);
        refused("splice(2, -1)", Boundaries::played, y -> y.splice(2, -1), NO_SUCH);
    }

    /** The town 1 has four tired ringers, and as many rested ones. */
    private static BellTowns rested(int many) {
        BellTowns x = tired();
        x.settle(1, 4, 4 + many);
        return x;
    }

    private void spliceNotPossible() {
        sentence(SPLICE, "NOT_POSSIBLE if the wear is 0, or fewer than two ringers are not "
            + "tired.");
        Supplier<BellTowns> unworn = () -> ring(new BellTowns(), 1, 8);
        refused("splice of the wear 0", unworn, x -> x.splice(1, 0), NOT_POSSIBLE);
        is("splice of the wear 1", rested(4).splice(1, 0), 1);
        refused("splice with none rested", () -> rested(0), x -> x.splice(1, 0), NOT_POSSIBLE);
        refused("splice with one rested", () -> rested(1), x -> x.splice(1, 0), NOT_POSSIBLE);
        BellTowns x = rested(2);
        is("splice with two rested", x.splice(1, 0), 1);
        is("tired", x.town(1, 2), 6);
        is("splice with none rested any more", x.splice(1, 1), NOT_POSSIBLE);
        is("splice of the wear 0 again", x.splice(1, 0), NOT_POSSIBLE);
        BellTowns y = rested(3);
        is("splice with three rested", y.splice(1, 0), 1);
        is("splice with one rested", y.splice(1, 1), NOT_POSSIBLE);
        BellTowns z = rested(4);
        is("splice with four rested", z.splice(1, 0), 1);
        is("splice again", z.splice(1, 0), NOT_POSSIBLE);
        is("splice with two rested", z.splice(1, 1), 1);
        BellTowns one = new BellTowns();
        ringers(one, 1, 1);
        ring(one, 1, 1);
        one.turns(1);
        is("splice of a town with one ringer", one.splice(1, 0), NOT_POSSIBLE);
        ringers(one, 1, 2);
        is("splice of a town with two ringers", one.splice(1, 0), 1);
    }

    private void feast() {
        sentence(FEAST, "Changes the feast day of a town.");
        BellTowns x = new BellTowns();
        x.feast(2, 5);
        is("feast day", x.town(2, 5), 5);
        is("feast day of another", x.town(3, 5), 3);
        sentence(FEAST, "town: 0 to 5");
        towns("feast", BellTowns::new, (y, town) -> y.feast(town, 6), 0, 5);
        sentence(FEAST, "day: 0 to 6");
        range("feast", Boundaries::played, (y, day) -> y.feast(2, day), 0, 6);
        sentence(FEAST, "Returns the previous feast day;");
        is("the first day", x.feast(2, 6), 5);
        is("the second day", x.feast(2, 0), 6);
        is("the third day", x.feast(2, 0), 0);
        sentence(FEAST, "NO_SUCH if there is no such town;");
        refused("feast(6, 6)", Boundaries::played, y -> y.feast(6, 6), NO_SUCH);
        refused("feast(6, 7)", Boundaries::played, y -> y.feast(6, 7), NO_SUCH);
        sentence(FEAST, "BAD_VALUE if day is out of range.");
        refused("feast(0, -1)", Boundaries::played, y -> y.feast(0, -1), BAD_VALUE);
        refused("feast(0, 7)", Boundaries::played, y -> y.feast(0, 7), BAD_VALUE);
    }

    private void set() {
        sentence(SET, "Changes a setting.");
        BellTowns x = new BellTowns();
        x.set(FADE, 2);
        is("FADE", x.count(7), 2);
        is("REST", x.count(8), 1);
        x.set(REST, 3);
        is("FADE", x.count(7), 2);
        is("REST", x.count(8), 3);
        sentence(SET, "setting: FADE or REST");
        for (int setting : new int[] {LEAST, -1, 2, GREATEST}) {
            refused("set(" + setting + ", 1)", Boundaries::played, y -> y.set(setting, 1),
                NO_SUCH);
        }
        sentence(SET, "value: the new value");
        range("set(FADE, ..)", Boundaries::played, (y, value) -> y.set(FADE, value), 0, 9);
        range("set(REST, ..)", Boundaries::played, (y, value) -> y.set(REST, value), 1, 3);
        sentence(SET, "Returns the previous value;");
        is("set(FADE, 9)", x.set(FADE, 9), 2);
        is("set(FADE, 0)", x.set(FADE, 0), 9);
        is("set(FADE, 0) again", x.set(FADE, 0), 0);
        is("set(REST, 1)", x.set(REST, 1), 3);
        is("set(REST, 2)", x.set(REST, 2), 1);
        sentence(SET, "NO_SUCH if there is no such setting;");
        refused("set(2, 99)", Boundaries::played, y -> y.set(2, 99), NO_SUCH);
        refused("set(-1, -1)", Boundaries::played, y -> y.set(-1, -1), NO_SUCH);
        sentence(SET, "BAD_VALUE if value is out of its range.");
        refused("set(FADE, 10)", Boundaries::played, y -> y.set(FADE, 10), BAD_VALUE);
        refused("set(FADE, -1)", Boundaries::played, y -> y.set(FADE, -1), BAD_VALUE);
        refused("set(REST, 4)", Boundaries::played, y -> y.set(REST, 4), BAD_VALUE);
        refused("set(REST, 0)", Boundaries::played, y -> y.set(REST, 0), BAD_VALUE);
    }

    private void turns() {
        sentence(TURNS, "Makes turns.");
        BellTowns x = played();
        BellTowns twin = played();
        x.turns(50);
        for (int turn = 0; turn < 50; turn++) {
            twin.turns(1);
        }
        isTrue("50 turns are 50 times one", state(x).equals(state(twin)));
        sentence(TURNS, "many: 1 to 50");
        range("turns", Boundaries::played, (y, many) -> y.turns(many), 1, 50);
        for (int many = 1; many <= 50; many++) {
            BellTowns y = new BellTowns();
            y.turns(many);
            is("the turn", y.count(0), many);
        }
        sentence(TURNS, "Returns the loudest town of the last one of them,");
        BellTowns z = ring(ring(new BellTowns(), 4, 3), 1, 2);
        is("turns(1)", z.turns(1), 4);
        is("turns(1)", z.turns(1), 1);
        is("turns(2)", z.turns(2), 1);
        is("turns(3)", z.turns(3), 4);
        sentence(TURNS, "NONE if there was none (this is an action all the same);");
        BellTowns v = ring(new BellTowns(), 2, 1);
        is("turns(2), of which the first has a loudest", v.turns(2), NONE);
        is("states", v.count(9), 3);
        is("undo", v.undo(), 2);
        is("the turn", v.count(0), 0);
        sentence(TURNS, "BAD_VALUE if many is out of range.");
        refused("turns(0)", Boundaries::played, y -> y.turns(0), BAD_VALUE);
        refused("turns(51)", Boundaries::played, y -> y.turns(51), BAD_VALUE);
        refused("turns(-1)", Boundaries::played, y -> y.turns(-1), BAD_VALUE);
    }
}
