/** What the document says of actions and the history, and the promises 14 to 16. */
final class HistoryBoundaries extends Boundaries {
    private static final String HISTORY = "Actions and history";
    private static final String UNDO = "Promise 14";
    private static final String SAVE = "Promise 15";
    private static final String RESTORE = "Promise 16";

    /** Each action on an object that was played; none of them is refused. */
    private static final Call[] ACTIONS = {
        x -> x.hang(1, 5), x -> x.melt(3, 2), x -> x.settle(0, 3, 2), x -> x.plan(3, 5),
        x -> x.splice(2, 0), x -> x.feast(2, 6), x -> x.set(FADE, 5), x -> x.set(REST, 3),
        x -> x.turns(1), x -> x.turns(9), x -> x.run(), x -> x.restore()};

    HistoryBoundaries(Due due, Sentences sentences) {
        super(due, sentences);
    }

    @Override
    void all() {
        whatIsAnAction();
        whatTheStateConsistsOf();
        recordedEvenIfNothingChanges();
        fiveStates();
        sixthState();
        notPartOfTheState();
        undo();
        save();
        restore();
    }

    private void whatIsAnAction() {
        sentence(HISTORY, "The actions are hang, melt, settle, plan, splice, feast, set, turns, "
            + "run and restore.");
        for (int i = 0; i < ACTIONS.length; i++) {
            BellTowns x = played();
            undo(x, 3);
            is("states before the action " + i, x.count(9), 2);
            ACTIONS[i].of(x);
            is("states behind the action " + i, x.count(9), 3);
        }
        Call[] others = {x -> x.append(';'), x -> x.clearText(), x -> x.fault(), x -> x.save(),
            x -> x.town(0, 0), x -> x.bell(0, 0, 4), x -> x.count(9), x -> x.loudness(0),
            x -> x.heard(0, 1), x -> x.winner(0), x -> x.ifPlanned(0, 0), x -> x.bestPlan(0),
            x -> x.pointsIn(0, 50), x -> (int) x.share(0)};
        for (int i = 0; i < others.length; i++) {
            BellTowns x = played();
            undo(x, 3);
            others[i].of(x);
            is("states behind the call " + i + ", which is no action", x.count(9), 2);
        }
        is("undo takes one state away", undo(played(), 1), 4);
    }

    private void whatTheStateConsistsOf() {
        sentence(HISTORY, "The state consists of the towns with all that belongs to them, the "
            + "settings, the number of the turn, and what was counted.");
        for (int i = 0; i < ACTIONS.length; i++) {
            BellTowns x = played();
            String before = state(x);
            ACTIONS[i].of(x);
            isTrue("the action " + i + " changes something", !before.equals(state(x)));
            x.undo();
            isTrue("undo of the action " + i + " brings all back", before.equals(state(x)));
        }
        BellTowns x = played();
        x.save();
        String before = state(x);
        for (Call action : ACTIONS) {
            action.of(x);
            x.turns(1);
        }
        x.restore();
        isTrue("restore brings all back", before.equals(state(x)));
        countedInTheState();
    }

    private void countedInTheState() {
        BellTowns x = ring(new BellTowns(), 2, 3);
        x.turns(1);
        x.turns(1);
        is("the loudest of the latest turn", x.count(6), NONE);
        is("turns without a loudest", x.count(5), 1);
        x.undo();
        is("the loudest of the latest turn behind undo", x.count(6), 2);
        is("turns without a loudest behind undo", x.count(5), 0);
        is("how often 2 was the loudest", x.town(2, 8), 1);
        is("how often it was rung", x.bell(2, 0, 3), 1);
        x.undo();
        is("the loudest of no turn", x.count(6), NONE);
        is("how often 2 was the loudest", x.town(2, 8), 0);
        is("how often it was rung", x.bell(2, 0, 3), 0);
        is("points", x.count(4), 0);
    }

    private void recordedEvenIfNothingChanges() {
        sentence(HISTORY, "Each action that returns no error code records the state before it in "
            + "the history, even if the action changes nothing.");
        Call[] idle = {x -> x.settle(4, 16, 8), x -> x.plan(5, 1), x -> x.feast(1, 1),
            x -> x.set(FADE, 1), x -> x.set(REST, 1), x -> x.run()};
        for (int i = 0; i < idle.length; i++) {
            BellTowns x = ring(new BellTowns(), 5, 3);
            write(x, "s11;t1");
            String before = state(x);
            isTrue("the action " + i + " answers no error code", idle[i].of(x) >= 0);
            isTrue("the action " + i + " changes nothing", before.equals(state(x)));
            is("states behind the action " + i, x.count(9), 3);
            is("undo of the action " + i, x.undo(), 2);
            isTrue("undo changes nothing", before.equals(state(x)));
            is("undo of the action before", x.undo(), 1);
            is("the plan before", x.town(5, 4), 0);
        }
        BellTowns y = new BellTowns();
        is("turns without a loudest", y.turns(1), NONE);
        is("states behind turns that answer NONE", y.count(9), 1);
        y.save();
        is("restore of the same state", y.restore(), 1);
        is("states behind restore", y.count(9), 2);
        is("plan(0, 0)", y.plan(0, 0), 0);
        is("states behind plan", y.count(9), 3);
    }

    private void fiveStates() {
        sentence(HISTORY, "The history holds at most 5 states;");
        BellTowns x = new BellTowns();
        is("states at first", x.count(9), 0);
        is("undo of none", x.undo(), NONE);
        for (int day = 1; day <= 5; day++) {
            x.feast(0, day);
            is("states behind the action " + day, x.count(9), day);
        }
        x.feast(0, 6);
        is("states behind the sixth", x.count(9), 5);
        x.feast(0, 0);
        is("states behind the seventh", x.count(9), 5);
        x.undo();
        is("states behind undo", x.count(9), 4);
        x.feast(0, 1);
        is("states behind one more", x.count(9), 5);
        x.feast(0, 1);
        is("states behind two more", x.count(9), 5);
    }

    /** The action number k hangs the k-th bell; from 0 to 13 actions, then undo to the end. */
    private void sixthState() {
        sentence(HISTORY, "when a sixth state is recorded, the oldest one is dropped.");
        for (int actions = 0; actions <= 13; actions++) {
            BellTowns x = new BellTowns();
            for (int k = 0; k < actions; k++) {
                x.hang(k / 5, 1 + k % 9);
            }
            int kept = Math.min(5, actions);
            for (int left = kept - 1; left >= 0; left--) {
                is("undo behind " + actions, x.undo(), left);
                is("bells", x.count(1), actions - kept + left);
            }
            is("undo of none behind " + actions, x.undo(), NONE);
            is("bells", x.count(1), actions - kept);
        }
        BellTowns y = new BellTowns();
        for (int weight = 1; weight <= 5; weight++) {
            y.hang(0, weight);
        }
        is("undo of the fifth", y.undo(), 4);
        is("undo of the fourth", y.undo(), 3);
        for (int weight = 1; weight <= 4; weight++) {
            y.hang(1, weight);
        }
        for (int left = 4; left >= 0; left--) {
            is("undo", y.undo(), left);
        }
        is("the oldest of seven states is dropped", y.count(1), 2);
        is("undo", y.undo(), NONE);
    }

    private void notPartOfTheState() {
        sentence(HISTORY, "The text, the snapshot and the history itself are not part of the "
            + "state.");
        BellTowns x = new BellTowns();
        x.hang(2, 7);
        write(x, "t1");
        x.save();
        x.hang(2, 8);
        is("undo", x.undo(), 1);
        is("undo", x.undo(), 0);
        is("length of the text behind undo", x.count(10), 2);
        is("restore behind undo", x.restore(), 0);
        is("bells of the snapshot", x.count(1), 1);
        is("states behind restore", x.count(9), 1);
        x.clearText();
        x.undo();
        is("length behind emptying and undo", x.count(10), 0);
        write(x, "p0;");
        x.restore();
        is("length behind restore", x.count(10), 3);
        x.save();
        x.hang(2, 9);
        x.undo();
        x.undo();
        x.restore();
        is("weight in the snapshot", x.bell(2, 0, 0), 7);
    }

    private void undo() {
        sentence(UNDO, "Restores the latest state of the history and removes it from the "
            + "history.");
        BellTowns x = new BellTowns();
        x.feast(3, 5);
        x.feast(3, 6);
        x.undo();
        is("feast day behind undo", x.town(3, 5), 5);
        x.undo();
        is("feast day behind two", x.town(3, 5), 3);
        is("states", x.count(9), 0);
        sentence(UNDO, "The text and the snapshot do not change.");
        BellTowns y = played();
        undo(y, 5);
        is("length", y.count(10), 10);
        is("fault", y.fault(), NONE);
        is("the turn of the snapshot", y.restore(), 1);
        BellTowns z = new BellTowns();
        z.hang(0, 1);
        z.undo();
        is("no snapshot by undo", z.restore(), NOT_POSSIBLE);
        sentence(UNDO, "Returns the number of states that are left in the history;");
        BellTowns v = played();
        for (int left = 4; left >= 0; left--) {
            is("undo", v.undo(), left);
        }
        sentence(UNDO, "NONE if the history is empty.");
        is("undo of a new object", new BellTowns().undo(), NONE);
        is("undo behind the last", v.undo(), NONE);
        is("undo again", v.undo(), NONE);
        changesNothing("undo of an empty history", HistoryBoundaries::emptied, w -> w.undo());
    }

    private static BellTowns emptied() {
        BellTowns x = played();
        undo(x, 5);
        return x;
    }

    private void save() {
        sentence(SAVE, "Takes a snapshot of the state, which replaces the previous snapshot.");
        BellTowns x = new BellTowns();
        x.save();
        x.turns(3);
        x.hang(4, 9);
        x.save();
        x.melt(4, 0);
        x.turns(4);
        is("the turn of the second snapshot", x.restore(), 3);
        is("bells of the second snapshot", x.count(1), 1);
        is("undo of all", undo(x, 5), 0);
        is("the turn behind undo", x.count(0), 0);
        is("the turn of the second snapshot", x.restore(), 3);
        sentence(SAVE, "This is not an action.");
        BellTowns y = played();
        undo(y, 2);
        y.save();
        is("states", y.count(9), 3);
        changesNothing("save of the state that is saved", HistoryBoundaries::saved,
            z -> z.save());
        sentence(SAVE, "Returns the number of the turn.");
        is("save of a new object", new BellTowns().save(), 0);
        BellTowns z = new BellTowns();
        z.turns(50);
        z.turns(1);
        is("save in the turn 51", z.save(), 51);
        is("save again", z.save(), 51);
    }

    private static BellTowns saved() {
        BellTowns x = played();
        x.save();
        return x;
    }

    private void restore() {
        sentence(RESTORE, "Restores the state of the snapshot.");
        BellTowns x = saved();
        String before = state(x);
        x.turns(9);
        x.melt(0, 0);
        x.set(REST, 3);
        x.restore();
        isTrue("the state of the snapshot", before.equals(state(x)));
        sentence(RESTORE, "The snapshot remains.");
        x.turns(2);
        is("restore again", x.restore(), 3);
        isTrue("the state of the snapshot again", before.equals(state(x)));
        sentence(RESTORE, "Returns the number of the turn;");
        BellTowns y = new BellTowns();
        y.save();
        y.turns(50);
        is("restore of the turn 0", y.restore(), 0);
        y.turns(7);
        y.save();
        is("restore of the turn 7", y.restore(), 7);
        is("undo of it", y.undo(), 3);
        sentence(RESTORE, "NOT_POSSIBLE if there is no snapshot.");
        refused("restore of a new object", BellTowns::new, z -> z.restore(), NOT_POSSIBLE);
        refused("restore without a snapshot", () -> ring(new BellTowns(), 1, 4, 5),
            z -> z.restore(), NOT_POSSIBLE);
    }
}
