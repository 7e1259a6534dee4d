/** What the document says of errors, for all methods that return error codes. */
final class ErrorBoundaries extends Boundaries {
    private static final String ERRORS = "Errors";

    ErrorBoundaries(Due due, Sentences sentences) {
        super(due, sentences);
    }

    @Override
    void all() {
        changesNothing();
        firstOneThatApplies();
        noneIsNoErrorCode();
        constants();
    }

    private void changesNothing() {
        sentence(ERRORS, "A method that returns an error code changes nothing.");
        Call[] noSuch = {x -> x.hang(6, 5), x -> x.melt(-1, 0), x -> x.melt(2, 1),
            x -> x.settle(6, 30, 9), x -> x.plan(-1, 0), x -> x.splice(6, 0),
            x -> x.splice(2, 1), x -> x.feast(6, 3), x -> x.set(2, 1), x -> x.town(6, 0),
            x -> x.bell(6, 0, 0), x -> x.bell(2, 1, 0), x -> x.loudness(6), x -> x.heard(6, 0),
            x -> x.heard(0, 6), x -> x.winner(6), x -> x.ifPlanned(6, 0), x -> x.bestPlan(6),
            x -> x.pointsIn(6, 1)};
        refusedAll("NO_SUCH", noSuch, NO_SUCH);
        Call[] badValue = {x -> x.hang(1, 10), x -> x.settle(1, 41, 9), x -> x.settle(1, 30, 21),
            x -> x.plan(2, 2), x -> x.feast(1, 7), x -> x.set(FADE, 10), x -> x.set(REST, 0),
            x -> x.turns(51), x -> x.append(127), x -> x.town(1, 9), x -> x.bell(2, 0, 5),
            x -> x.count(11), x -> x.ifPlanned(2, 2), x -> x.pointsIn(1, 51)};
        refusedAll("BAD_VALUE", badValue, BAD_VALUE);
        refused("hang on five", Boundaries::played, x -> x.hang(3, 1), TOO_MANY);
        Call[] notPossible = {x -> x.settle(1, 17, 9), x -> x.splice(3, 4)};
        refusedAll("NOT_POSSIBLE", notPossible, NOT_POSSIBLE);
        refused("run of no script", () -> unscripted(), x -> x.run(), -103);
    }

    private void refusedAll(String error, Call[] calls, int want) {
        for (int i = 0; i < calls.length; i++) {
            refused(error + ", call " + i, Boundaries::played, calls[i], want);
        }
    }

    private static BellTowns unscripted() {
        BellTowns x = played();
        x.clearText();
        write(x, "t1;x");
        return x;
    }

    private void firstOneThatApplies() {
        sentence(ERRORS, "The error codes of a method are listed in the order in which they are "
            + "checked, and the first one that applies is returned.");
        BellTowns x = played();
        is("hang: no town, bad weight", x.hang(6, 0), NO_SUCH);
        is("hang: bad weight, five bells", x.hang(3, 10), BAD_VALUE);
        is("settle: no town, bad milestone", x.settle(6, -1, 8), NO_SUCH);
        is("settle: no town, bad ringers", x.settle(-1, 3, 0), NO_SUCH);
        is("settle: no town, taken milestone", x.settle(6, 8, 8), NO_SUCH);
        is("settle: taken milestone, bad ringers", x.settle(1, 8, 21), BAD_VALUE);
        is("plan: no town, bad bells", x.plan(6, 32), NO_SUCH);
        is("splice: no bell, unworn or too few", x.splice(1, 0), NO_SUCH);
        is("feast: no town, bad day", x.feast(-1, 7), NO_SUCH);
        is("set: no setting, bad value", x.set(2, 10), NO_SUCH);
        is("town: no town, bad what", x.town(6, 9), NO_SUCH);
        is("bell: no town, bad what", x.bell(6, 0, 5), NO_SUCH);
        is("bell: no bell, bad what", x.bell(2, 1, 5), NO_SUCH);
        is("ifPlanned: no town, bad bells", x.ifPlanned(6, 32), NO_SUCH);
        is("pointsIn: no town, bad many", x.pointsIn(6, 51), NO_SUCH);
        for (int length = 10; length < 60; length++) {
            x.append(';');
        }
        is("append: bad character, full text", x.append(31), BAD_VALUE);
        is("append: full text", x.append(';'), TOO_MANY);
    }

    private void noneIsNoErrorCode() {
        sentence(ERRORS, "NONE is not an error code.");
        BellTowns x = new BellTowns();
        is("turns(2)", x.turns(2), NONE);
        is("the turn behind an answer NONE", x.count(0), 2);
        is("states behind an answer NONE", x.count(9), 1);
        write(x, "t1;t1;t1");
        is("run of turns that would answer NONE", x.run(), 3);
        is("the turn", x.count(0), 5);
    }

    private void constants() {
        sentence(ERRORS, "NO_SUCH = -1: There is no such town, bell or setting.");
        BellTowns x = new BellTowns();
        is("NO_SUCH", BellTowns.NO_SUCH, -1);
        is("no such town", x.winner(6), -1);
        is("no such bell", x.melt(0, 0), -1);
        is("no such setting", x.set(2, 1), -1);
        sentence(ERRORS, "BAD_VALUE = -2: Another argument is out of its range.");
        is("BAD_VALUE", BellTowns.BAD_VALUE, -2);
        is("out of its range", x.count(11), -2);
        sentence(ERRORS, "TOO_MANY = -3: There is no more room.");
        is("TOO_MANY", BellTowns.TOO_MANY, -3);
        is("no more room", ring(x, 0, 1, 1, 1, 1, 1).hang(0, 1), -3);
        sentence(ERRORS, "NOT_POSSIBLE = -4: The call is not possible in the present state.");
        is("NOT_POSSIBLE", BellTowns.NOT_POSSIBLE, -4);
        is("not possible", x.restore(), -4);
        sentence(ERRORS, "NONE = -5: There is no result; this is not an error code.");
        is("NONE", BellTowns.NONE, -5);
        is("no result", new BellTowns().undo(), -5);
        sentence(ERRORS, "The constants:");
        is("the setting behind -1", x.set(-1, 1), NO_SUCH);
        sentence(ERRORS, "FADE = 0, REST = 1: The settings.");
        is("FADE", BellTowns.FADE, 0);
        is("REST", BellTowns.REST, 1);
        is("set(0, 9)", x.set(0, 9), 1);
        is("count(7)", x.count(7), 9);
        is("set(1, 3)", x.set(1, 3), 1);
        is("count(8)", x.count(8), 3);
    }
}
