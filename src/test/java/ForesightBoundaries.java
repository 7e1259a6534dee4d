import java.util.function.Supplier;

/** The promises 23 to 26. */
final class ForesightBoundaries extends Boundaries {
    private static final String IF_PLANNED = "Promise 23";
    private static final String BEST = "Promise 24";
    private static final String POINTS = "Promise 25";
    private static final String SHARE = "Promise 26";

    ForesightBoundaries(Due due, Sentences sentences) {
        super(due, sentences);
    }

    @Override
    void all() {
        nothingIsChanged();
        ifPlanned();
        ifPlannedDoesNotMatter();
        ifPlannedBells();
        bestPlan();
        bestOfSeveral();
        pointsIn();
        pointsInTurns();
        share();
        shareOfNone();
    }

    /** Two bells each in the first and in the last town; none is planned. */
    private static BellTowns ends() {
        BellTowns x = new BellTowns();
        for (int town = 0; town <= 5; town += 5) {
            x.hang(town, 3);
            x.hang(town, 2);
        }
        x.feast(0, 6);
        x.feast(5, 6);
        return x;
    }

    private void nothingIsChanged() {
        sentence("Errors", "---- what would be; nothing is changed.");
        Call[] calls = {x -> x.ifPlanned(3, 17), x -> x.ifPlanned(5, 0), x -> x.bestPlan(0),
            x -> x.bestPlan(3), x -> x.pointsIn(3, 50), x -> x.share(3) > 0.5 ? 1 : 0};
        for (int i = 0; i < calls.length; i++) {
            changesNothing("the call " + i, Boundaries::played, calls[i]);
            BellTowns x = played();
            is("the call " + i + " again", calls[i].of(x), calls[i].of(x));
        }
    }

    private void ifPlanned() {
        sentence(IF_PLANNED, "Tells how many points a town would get in the next turn with "
            + "another plan.");
        BellTowns x = ends();
        is("ifPlanned(0, 1)", x.ifPlanned(0, 1), 1);
        is("ifPlanned(0, 3)", x.ifPlanned(0, 3), 2);
        is("the plan", x.town(0, 4), 0);
        changesNothing("ifPlanned", Boundaries::played, y -> y.ifPlanned(3, 31));
        changesNothing("ifPlanned of a silent town", Boundaries::played,
            y -> y.ifPlanned(5, 3));
        sentence(IF_PLANNED, "town: 0 to 5");
        towns("ifPlanned", ForesightBoundaries::ends, (y, town) -> y.ifPlanned(town, 3), 2, 2);
        sentence(IF_PLANNED, "bells: 0 to 31, as for plan");
        range("ifPlanned(3, ..)", Boundaries::played, (y, bells) -> y.ifPlanned(3, bells), 0, 31);
        sentence(IF_PLANNED, "Returns the points, 0 to 6;");
        int[] fades = {9, 2, 1, 0};
        int[] wants = {1, 2, 3, 6};
        for (int i = 0; i < fades.length; i++) {
            BellTowns y = new BellTowns();
            y.hang(0, 9);
            y.feast(0, 6);
            y.set(FADE, fades[i]);
            is("ifPlanned(0, 1) with FADE " + fades[i], y.ifPlanned(0, 1), wants[i]);
            is("ifPlanned(0, 0) with FADE " + fades[i], y.ifPlanned(0, 0), 0);
        }
        sentence(IF_PLANNED, "NO_SUCH if there is no such town;");
        refused("ifPlanned(6, 0)", Boundaries::played, y -> y.ifPlanned(6, 0), NO_SUCH);
        refused("ifPlanned(-1, 32)", Boundaries::played, y -> y.ifPlanned(-1, 32), NO_SUCH);
    }

    private void ifPlannedDoesNotMatter() {
        sentence(IF_PLANNED, "(On its feast day, and while it is silent, the plan does not "
            + "matter.)");
        BellTowns x = ends();
        x.set(FADE, 0);
        x.feast(0, 0);
        for (int bells = 0; bells <= 3; bells++) {
            is("ifPlanned(0, " + bells + ") on the feast", x.ifPlanned(0, bells), 6);
        }
        is("ifPlanned(0, 4) on the feast", x.ifPlanned(0, 4), BAD_VALUE);
        is("ifPlanned(5, 3) against the feast", x.ifPlanned(5, 3), 0);
        x.turns(1);
        x.feast(0, 1);
        for (int bells = 0; bells <= 3; bells++) {
            is("ifPlanned(0, " + bells + ") in silence", x.ifPlanned(0, bells), 0);
        }
        is("ifPlanned(0, 4) in silence", x.ifPlanned(0, 4), BAD_VALUE);
        is("ifPlanned(5, 3) behind the feast", x.ifPlanned(5, 3), 6);
    }

    private void ifPlannedBells() {
        sentence(IF_PLANNED, "BAD_VALUE as for plan.");
        refused("ifPlanned(3, -1)", Boundaries::played, y -> y.ifPlanned(3, -1), BAD_VALUE);
        refused("ifPlanned(3, 32)", Boundaries::played, y -> y.ifPlanned(3, 32), BAD_VALUE);
        refused("ifPlanned(1, 1)", Boundaries::played, y -> y.ifPlanned(1, 1), BAD_VALUE);
        for (int bells = 0; bells <= 5; bells++) {
            BellTowns x = new BellTowns();
            for (int bell = 0; bell < bells; bell++) {
                x.hang(4, 1);
            }
            for (int mask = -1; mask <= 33; mask++) {
                boolean isTheirs = mask >= 0 && mask < 1 << bells;
                is("ifPlanned(4, " + mask + ") of " + bells,
                    x.ifPlanned(4, mask) == BAD_VALUE ? 0 : 1, isTheirs ? 1 : 0);
            }
        }
    }

    private void bestPlan() {
        sentence(BEST, "Finds the plan with which a town would get the most points in the next "
            + "turn.");
        is("of a town without a bell", new BellTowns().bestPlan(3), 0);
        BellTowns x = ends();
        is("bestPlan(0)", x.bestPlan(0), 3);
        is("the plan", x.town(0, 4), 0);
        changesNothing("bestPlan", Boundaries::played, y -> y.bestPlan(3));
        BellTowns y = new BellTowns();
        ringers(y, 2, 20);
        for (int bell = 0; bell < 5; bell++) {
            y.hang(2, 8);
        }
        y.feast(2, 6);
        y.set(FADE, 3);
        // Heard 12 miles away from 37 on: all five bells are needed.
        is("bestPlan(2) of five bells", y.bestPlan(2), 31);
        sentence(BEST, "town: 0 to 5");
        towns("bestPlan", ForesightBoundaries::ends, (z, town) -> z.bestPlan(town), 3, 3);
        sentence(BEST, "Returns the plan, as a bit mask;");
        BellTowns last = new BellTowns();
        for (int weight : new int[] {1, 1, 1, 1, 9}) {
            last.hang(4, weight);
        }
        is("the last bell alone", ring(last, 5, 8).bestPlan(4), 0b10000);
        sentence(BEST, "NO_SUCH if there is no such town.");
        refused("bestPlan(-1)", Boundaries::played, z -> z.bestPlan(-1), NO_SUCH);
        refused("bestPlan(6)", Boundaries::played, z -> z.bestPlan(6), NO_SUCH);
    }

    /** The bells of the town 4, without fading, against a town that rings this weight. */
    private static int best(int against, int... weights) {
        BellTowns x = new BellTowns();
        x.set(FADE, 0);
        ringers(x, 4, 20);
        for (int weight : weights) {
            x.hang(4, weight);
        }
        if (against > 0) {
            ring(x, 1, against);
        }
        return x.bestPlan(4);
    }

    private void bestOfSeveral() {
        sentence(BEST, "of several with as many points the one with which the town would have the "
            + "least loudness, of several of these the least number;");
        is("3, 2 and 1 against 0", best(0, 3, 2, 1), 0b100);
        is("3, 2 and 1 against 1", best(1, 3, 2, 1), 0b010);
        is("1, 2 and 3 against 2", best(2, 1, 2, 3), 0b011);
        is("3, 2 and 1 against 2, of two with 3", best(2, 3, 2, 1), 0b001);
        is("2, 1, 1 and 1 against 2, of several with 3", best(2, 2, 1, 1, 1), 0b0011);
        is("1, 1, 1 and 2 against 2, of several with 3", best(2, 1, 1, 1, 2), 0b0111);
        is("1 and 1 against 0", best(0, 1, 1), 0b01);
        is("five of 1 against 4", best(4, 1, 1, 1, 1, 1), 0b11111);
        is("five of 1 against 5, where none helps", best(5, 1, 1, 1, 1, 1), 0);
        is("9 against 9", best(9, 9), 0);
        is("9 against 8", best(8, 9), 1);
        // With 9 of 8 ringers the second bell is left out, and its plan rings as the first.
        BellTowns x = new BellTowns();
        x.hang(4, 9);
        x.hang(4, 9);
        is("a bell that is left out", x.bestPlan(4), 0b01);
        x.feast(4, 0);
        is("on its feast", x.bestPlan(4), 0);
        x.plan(4, 3);
        is("on its feast, planned", x.bestPlan(4), 0);
        ring(x, 0, 9, 4);
        is("on its feast, below another town", x.bestPlan(4), 0);
        x.plan(0, 0);
        x.feast(0, 6);
        x.turns(1);
        is("in silence", x.bestPlan(4), 0);
    }

    private void pointsIn() {
        sentence(POINTS, "Tells how many points a town would have behind some turns, if nothing "
            + "else is done.");
        BellTowns x = played();
        int[] wants = new int[6];
        for (int town = 0; town <= 5; town++) {
            wants[town] = x.pointsIn(town, 50);
        }
        x.turns(50);
        for (int town = 0; town <= 5; town++) {
            is("points behind 50 turns", x.town(town, 7), wants[town]);
        }
        changesNothing("pointsIn(3, 1)", Boundaries::played, y -> y.pointsIn(3, 1));
        changesNothing("pointsIn(3, 50)", Boundaries::played, y -> y.pointsIn(3, 50));
        sentence(POINTS, "town: 0 to 5");
        Supplier<BellTowns> rung = () -> ring(ring(new BellTowns(), 0, 3), 5, 9);
        towns("pointsIn", rung, (y, town) -> y.pointsIn(town, 1), 1, 3);
        sentence(POINTS, "many: 1 to 50");
        range("pointsIn(3, ..)", Boundaries::played, (y, many) -> y.pointsIn(3, many), 1, 50);
        sentence(POINTS, "NO_SUCH if there is no such town;");
        refused("pointsIn(6, 1)", Boundaries::played, y -> y.pointsIn(6, 1), NO_SUCH);
        refused("pointsIn(-1, 51)", Boundaries::played, y -> y.pointsIn(-1, 51), NO_SUCH);
        sentence(POINTS, "BAD_VALUE if many is out of range.");
        refused("pointsIn(0, 0)", Boundaries::played, y -> y.pointsIn(0, 0), BAD_VALUE);
        refused("pointsIn(0, 51)", Boundaries::played, y -> y.pointsIn(0, 51), BAD_VALUE);
        refused("pointsIn(0, -1)", Boundaries::played, y -> y.pointsIn(0, -1), BAD_VALUE);
    }

    /** The bell is rung on its feasts alone, the last time in the turn 38; 3 towns hear it. */
    private void pointsInTurns() {
        sentence(POINTS, "Returns its points so far then;");
        BellTowns x = new BellTowns();
        x.hang(5, 9);
        x.feast(5, 3);
        for (int many = 1; many <= 50; many++) {
            int feasts = Math.min(6, (many + 3) / 7);
            is("pointsIn(5, " + many + ")", x.pointsIn(5, many), 3 * feasts);
        }
        x.turns(4);
        is("points so far", x.town(5, 7), 3);
        is("pointsIn(5, 1), of which none is new", x.pointsIn(5, 1), 3);
        is("pointsIn(5, 6)", x.pointsIn(5, 6), 3);
        is("pointsIn(5, 7)", x.pointsIn(5, 7), 6);
        is("points so far", x.town(5, 7), 3);
    }

    private void share() {
        sentence(SHARE, "Returns the share of the points that a town has.");
        BellTowns x = ring(ring(new BellTowns(), 0, 9), 5, 3);
        x.turns(1);
        // 9 is heard in three towns, 3 at home alone.
        is("share(0)", x.share(0), 0.75);
        is("share(5)", x.share(5), 0.25);
        changesNothing("share", Boundaries::played, y -> y.share(3) > 0.5 ? 1 : 0);
        sentence(SHARE, "town: 0 to 5");
        for (int town : NO_TOWN) {
            is("share(" + town + ")", x.share(town), 0.0);
            changesNothing("share(" + town + ")", Boundaries::played,
                y -> y.share(town) > 0.5 ? 1 : 0);
        }
        is("share(1), without points", x.share(1), 0.0);
        sentence(SHARE, "Returns its points so far, as a double, divided by all points so far;");
        BellTowns all = ring(new BellTowns(), 4, 9);
        all.turns(1);
        is("share of all points", all.share(4), 1.0);
        is("share of no points", all.share(5), 0.0);
        BellTowns thirds = ring(ring(new BellTowns(), 0, 5), 5, 3);
        thirds.turns(1);
        // 5 is heard at home and in the next town, 3 at home alone.
        is("share of two of three", thirds.share(0), 2.0 / 3.0);
        is("share of one of three", thirds.share(5), 1.0 / 3.0);
        thirds.turns(4);
        double points = thirds.town(0, 7);
        is("share behind more turns", thirds.share(0), points / thirds.count(4));
    }

    private void shareOfNone() {
        sentence(SHARE, "0.0 if there are none, and if there is no such town.");
        BellTowns x = new BellTowns();
        for (int town = -1; town <= 6; town++) {
            is("share(" + town + ") of none", x.share(town), 0.0);
        }
        ring(ring(x, 2, 5), 3, 5);
        x.set(FADE, 0);
        x.turns(1);
        is("points", x.count(4), 0);
        is("share(2) behind a turn without points", x.share(2), 0.0);
        BellTowns y = played();
        is("share(6) of some", y.share(6), 0.0);
        is("share(-1) of some", y.share(-1), 0.0);
        is("share of the least", y.share(LEAST), 0.0);
        is("share of the greatest", y.share(GREATEST), 0.0);
        undo(y, 5);
        is("share(6) behind undo", y.share(6), 0.0);
    }
}
