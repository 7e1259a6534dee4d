/** The promises 17 to 22. */
final class QueryBoundaries extends Boundaries {
    private static final String TOWN = "Promise 17";
    private static final String BELL = "Promise 18";
    private static final String COUNT = "Promise 19";
    private static final String LOUDNESS = "Promise 20";
    private static final String HEARD = "Promise 21";
    private static final String WINNER = "Promise 22";

    QueryBoundaries(Due due, Sentences sentences) {
        super(due, sentences);
    }

    @Override
    void all() {
        changeNothing();
        town();
        townWhat();
        bell();
        bellWhat();
        firstReason();
        lastReason();
        count();
        countWhat();
        countLoudest();
        loudness();
        heard();
        winner();
    }

    private void changeNothing() {
        sentence("Errors", "---- queries; they change nothing.");
        Call[] queries = {x -> x.town(0, 2), x -> x.bell(0, 0, 4), x -> x.count(6),
            x -> x.loudness(3), x -> x.heard(3, 2), x -> x.winner(4)};
        for (int i = 0; i < queries.length; i++) {
            changesNothing("the query " + i, Boundaries::played, queries[i]);
            BellTowns x = played();
            is("the query " + i + " again", queries[i].of(x), queries[i].of(x));
        }
    }

    private void town() {
        sentence(TOWN, "Returns something about a town.");
        changesNothing("town", Boundaries::played, x -> x.town(0, 4));
        sentence(TOWN, "town: 0 to 5");
        towns("town", BellTowns::new, (x, town) -> x.town(town, 0), 0, 20);
        sentence(TOWN, "Returns the number;");
        is("milestone", played().town(4, 0), 17);
        is("points of a town without any", played().town(4, 7), 0);
        sentence(TOWN, "NO_SUCH if there is no such town;");
        refused("town(6, 8)", Boundaries::played, x -> x.town(6, 8), NO_SUCH);
        refused("town(-1, 9)", Boundaries::played, x -> x.town(-1, 9), NO_SUCH);
        sentence(TOWN, "BAD_VALUE if what is out of range.");
        range("town(5, ..)", Boundaries::played, (x, what) -> x.town(5, what), 0, 8);
        refused("town(0, -1)", Boundaries::played, x -> x.town(0, -1), BAD_VALUE);
        refused("town(0, 9)", Boundaries::played, x -> x.town(0, 9), BAD_VALUE);
    }

    private void townWhat() {
        sentence(TOWN, "what: 0 for its milestone, 1 for its ringers, 2 for the tired ones, 3 for "
            + "the number of its bells, 4 for its plan (as a bit mask), 5 for its feast day, 6 for "
            + "its silence, 7 for its points so far, 8 for how often it was the loudest town so "
            + "far");
        BellTowns x = ring(new BellTowns(), 5, 9, 8, 1, 1);
        x.settle(5, 40, 20);
        x.plan(5, 0b1011);
        x.feast(5, 6);
        x.set(REST, 2);
        x.set(FADE, 0);
        x.turns(4);
        // Rung in the turns 0 and 3, by 5 + 4 + 1 ringers, and heard alone in all six towns.
        int[] wants = {40, 20, 5, 4, 0b1011, 6, 2, 12, 2};
        for (int what = 0; what <= 8; what++) {
            is("town(5, " + what + ")", x.town(5, what), wants[what]);
        }
        int[] firsts = {20, 8, 0, 0, 0, 5, 0, 0, 0};
        for (int what = 0; what <= 8; what++) {
            is("town(5, " + what + ") at first", new BellTowns().town(5, what), firsts[what]);
        }
    }

    private void bell() {
        sentence(BELL, "Returns something about a bell.");
        for (int what = 0; what <= 4; what++) {
            int asked = what;
            changesNothing("bell", Boundaries::played, x -> x.bell(0, 1, asked));
        }
        sentence(BELL, "town: 0 to 5");
        towns("bell", QueryBoundaries::ends, (x, town) -> x.bell(town, 0, 0), 3, 7);
        sentence(BELL, "bell: number of a bell");
        for (int bell = 0; bell <= 4; bell++) {
            is("weight", played().bell(3, bell, 0), bell + 1);
        }
        for (int bell : new int[] {LEAST, -1, 5, GREATEST}) {
            refused("bell(3, " + bell + ", 0)", Boundaries::played, x -> x.bell(3, bell, 0),
                NO_SUCH);
        }
        sentence(BELL, "Returns the number;");
        is("weight 9", played().bell(0, 0, 0), 9);
        is("ringers for 9", played().bell(0, 0, 2), 5);
        sentence(BELL, "NO_SUCH if there is no such town or bell;");
        refused("bell(6, 0, 0)", Boundaries::played, x -> x.bell(6, 0, 0), NO_SUCH);
        refused("bell(-1, 0, 5)", Boundaries::played, x -> x.bell(-1, 0, 5), NO_SUCH);
        refused("bell(1, 0, 0) of none", Boundaries::played, x -> x.bell(1, 0, 0), NO_SUCH);
        refused("bell(2, 1, 0) of one", Boundaries::played, x -> x.bell(2, 1, 0), NO_SUCH);
        refused("bell(2, 1, 5) of one", Boundaries::played, x -> x.bell(2, 1, 5), NO_SUCH);
        sentence(BELL, "BAD_VALUE if what is out of range.");
        range("bell(2, 0, ..)", Boundaries::played, (x, what) -> x.bell(2, 0, what), 0, 4);
        refused("bell(2, 0, -1)", Boundaries::played, x -> x.bell(2, 0, -1), BAD_VALUE);
        refused("bell(2, 0, 5)", Boundaries::played, x -> x.bell(2, 0, 5), BAD_VALUE);
    }

    private static BellTowns ends() {
        return ring(ring(new BellTowns(), 0, 3), 5, 7);
    }

    private void bellWhat() {
        sentence(BELL, "0 for its weight, 1 for the wear of its rope, 2 for the ringers "
            + "that it takes, 3 for how often it was rung so far,");
        BellTowns x = ring(new BellTowns(), 1, 5);
        int[] firsts = {5, 0, 3, 0, 0};
        for (int what = 0; what <= 4; what++) {
            is("bell(1, 0, " + what + ") at first", x.bell(1, 0, what), firsts[what]);
        }
        x.turns(5);
        x.splice(1, 0);
        x.turns(2);
        // Rung in the turns 0, 2 and 4, then spliced, then in the turn 6, now silent.
        int[] wants = {5, 1, 3, 4, 1};
        for (int what = 0; what <= 4; what++) {
            is("bell(1, 0, " + what + ")", x.bell(1, 0, what), wants[what]);
        }
    }

    /** A broken bell of weight 9 in the town 0, which is silent in the turn 11 alone. */
    private static BellTowns broken() {
        BellTowns x = ring(new BellTowns(), 0, 9);
        x.feast(0, 6);
        x.turns(11);
        return x;
    }

    private void firstReason() {
        sentence(BELL, "4 for the reason why it would not be rung in the next turn: the first one "
            + "that applies of 1 (the town is silent), 2 (the town does not want to ring it), 3 "
            + "(its rope is broken), 4 (the ringers are too few),");
        BellTowns x = broken();
        x.plan(0, 0);
        ringers(x, 0, 4);
        is("silent, not wanted, broken, too few", x.bell(0, 0, 4), 1);
        x.plan(0, 1);
        is("silent, broken, too few", x.bell(0, 0, 4), 1);
        x.turns(1);
        x.plan(0, 0);
        is("not wanted, broken, too few", x.bell(0, 0, 4), 2);
        x.plan(0, 1);
        is("broken, too few", x.bell(0, 0, 4), 3);
        x.plan(0, 0);
        x.feast(0, 12 % 7);
        is("broken, too few, on the feast", x.bell(0, 0, 4), 3);
        ringers(x, 0, 20);
        is("broken", x.bell(0, 0, 4), 3);
        x.splice(0, 0);
        is("none of them", x.bell(0, 0, 4), 0);
        ringers(x, 0, 6);
        is("too few, as two of six are tired", x.bell(0, 0, 4), 4);
        ringers(x, 0, 7);
        is("none of them, as two of seven are tired", x.bell(0, 0, 4), 0);
        x.feast(0, 6);
        ringers(x, 0, 1);
        is("not wanted, too few", x.bell(0, 0, 4), 2);
    }

    private void lastReason() {
        sentence(BELL, "and 0 if it would be rung");
        BellTowns x = played();
        BellTowns next = played();
        next.turns(1);
        for (int town = 0; town <= 5; town++) {
            for (int bell = 0; bell < x.town(town, 3); bell++) {
                int times = next.bell(town, bell, 3) - x.bell(town, bell, 3);
                is("rung in the next turn, " + town + " " + bell, times,
                    x.bell(town, bell, 4) == 0 ? 1 : 0);
            }
        }
        is("a bell that would be rung", x.bell(3, 0, 4), 0);
    }

    private void count() {
        sentence(COUNT, "Returns a number.");
        for (int what = 0; what <= 10; what++) {
            int asked = what;
            changesNothing("count(" + what + ")", Boundaries::played, x -> x.count(asked));
        }
        sentence(COUNT, "Returns the number;");
        int[] wants = {0, 0, 0, 0, 0, 0, NONE, 1, 1, 0, 0};
        for (int what = 0; what <= 10; what++) {
            is("count(" + what + ") at first", new BellTowns().count(what), wants[what]);
        }
        sentence(COUNT, "BAD_VALUE if what is out of range.");
        range("count", Boundaries::played, (x, what) -> x.count(what), 0, 10);
        refused("count(-1)", Boundaries::played, x -> x.count(-1), BAD_VALUE);
        refused("count(11)", Boundaries::played, x -> x.count(11), BAD_VALUE);
    }

    private void countWhat() {
        sentence(COUNT, "what: 0 for the number of the turn, 1 for all bells, 2 for broken ropes, "
            + "3 for silent towns, 4 for points so far, 5 for turns without a loudest town so "
            + "far,");
        BellTowns x = new BellTowns();
        for (int town = 0; town <= 5; town++) {
            ring(x, town, 2, 2, 2, 1, 1);
        }
        x.set(REST, 3);
        is("all bells", x.count(1), 30);
        x.turns(3);
        is("the turn", x.count(0), 3);
        is("silent towns", x.count(3), 3);
        is("broken ropes", x.count(2), 0);
        is("turns without a loudest", x.count(5), 0);
        int points = 0;
        for (int town = 0; town <= 5; town++) {
            points += x.town(town, 7);
        }
        is("points", x.count(4), points);
        x.turns(50);
        is("all ropes broken", x.count(2), 30);
        is("no silent towns", x.count(3), 0);
        int loudest = 0;
        for (int town = 0; town <= 5; town++) {
            loudest += x.town(town, 8);
        }
        is("turns without a loudest", x.count(5), 53 - loudest);
        x.splice(5, 4);
        is("all ropes but one", x.count(2), 29);
        x.melt(0, 0);
        is("all ropes but one, and one melted", x.count(2), 28);
        is("all bells but one", x.count(1), 29);
        for (int town = 0; town <= 5; town++) {
            BellTowns y = ring(new BellTowns(), town, 1);
            is("one bell in " + town, y.count(1), 1);
            y.turns(1);
            is("one silent town, " + town, y.count(3), 1);
            is("one point of " + town, y.count(4), 1);
            y.turns(12);
            is("one broken rope in " + town, y.count(2), 1);
        }
    }

    private void countLoudest() {
        sentence(COUNT, "6 for the loudest town of the latest turn (NONE if there was none, or "
            + "there was no turn),");
        BellTowns x = new BellTowns();
        is("without a turn", x.count(6), NONE);
        ring(x, 0, 1);
        is("before the first turn", x.count(6), NONE);
        x.turns(1);
        is("behind a turn", x.count(6), 0);
        x.plan(0, 0);
        is("behind a plan", x.count(6), 0);
        x.turns(1);
        is("behind a turn without one", x.count(6), NONE);
        x.undo();
        is("behind undo", x.count(6), 0);
        x.undo();
        x.undo();
        is("behind undo of the first turn", x.count(6), NONE);
        BellTowns y = ring(new BellTowns(), 5, 1);
        y.turns(1);
        is("the last town", y.count(6), 5);
        sentence(COUNT, "7 and 8 for the settings, 9 for states in the history, 10 for the length "
            + "of the text");
        y.set(FADE, 0);
        y.set(REST, 3);
        write(y, "t1");
        is("FADE", y.count(7), 0);
        is("REST", y.count(8), 3);
        is("states", y.count(9), 5);
        y.feast(0, 0);
        is("states behind the sixth action", y.count(9), 5);
        is("length", y.count(10), 2);
        write(y, ";t1;t1;t1;t1;t1;t1;t1;t1;t1;t1;t1;t1;t1;t1;t1;t1;t1;t1;t1;");
        is("length of a full text", y.count(10), 60);
        y.append('t');
        is("length behind a refused append", y.count(10), 60);
    }

    private void loudness() {
        sentence(LOUDNESS, "Returns the loudness that a town would have in the next turn.");
        changesNothing("loudness", Boundaries::played, x -> x.loudness(5));
        sentence(LOUDNESS, "town: 0 to 5");
        towns("loudness", QueryBoundaries::ends, (x, town) -> x.loudness(town), 3, 7);
        sentence(LOUDNESS, "Returns the loudness;");
        is("without a bell", new BellTowns().loudness(5), 0);
        BellTowns x = new BellTowns();
        ringers(x, 5, 20);
        ring(x, 5, 8, 8, 8, 8, 8);
        is("five bells of the weight 8", x.loudness(5), 40);
        ringers(x, 5, 19);
        is("five bells with one ringer too few", x.loudness(5), 32);
        ringers(x, 5, 3);
        is("five bells, each of which takes more", x.loudness(5), 0);
        ringers(x, 5, 20);
        x.turns(1);
        is("in silence", x.loudness(5), 0);
        x.turns(1);
        is("behind the silence", x.loudness(5), 40);
        sentence(LOUDNESS, "NO_SUCH if there is no such town.");
        refused("loudness(-1)", Boundaries::played, y -> y.loudness(-1), NO_SUCH);
        refused("loudness(6)", Boundaries::played, y -> y.loudness(6), NO_SUCH);
    }

    private void heard() {
        sentence(HEARD, "Returns how a town would be heard in a town in the next turn.");
        changesNothing("heard", Boundaries::played, x -> x.heard(5, 4));
        sentence(HEARD, "town: 0 to 5: the town that is heard");
        towns("heard at home", QueryBoundaries::ends, (x, town) -> x.heard(town, town), 3, 7);
        towns("heard in 5", QueryBoundaries::ends, (x, town) -> x.heard(town, 5), 0, 7);
        sentence(HEARD, "ear: 0 to 5: the town in which it is heard");
        towns("5 heard", QueryBoundaries::ends, (x, ear) -> x.heard(5, ear), 0, 7);
        sentence(HEARD, "Returns how loud it is there, 0 or more;");
        BellTowns x = ring(new BellTowns(), 3, 4);
        is("4 at home", x.heard(3, 3), 4);
        is("4 at 4 miles before it", x.heard(3, 2), 0);
        is("4 at 4 miles behind it", x.heard(3, 4), 0);
        x.settle(2, 9, 8);
        x.settle(4, 15, 8);
        is("4 at 3 miles before it", x.heard(3, 2), 1);
        is("4 at 3 miles behind it", x.heard(3, 4), 1);
        is("4 at 8 miles", x.heard(3, 1), 0);
        is("4 at 12 miles", x.heard(3, 0), 0);
        is("a town without a bell at home", x.heard(2, 2), 0);
        sentence(HEARD, "NO_SUCH if there is no such town.");
        refused("heard(6, 0)", Boundaries::played, y -> y.heard(6, 0), NO_SUCH);
        refused("heard(-1, 0)", Boundaries::played, y -> y.heard(-1, 0), NO_SUCH);
        refused("heard(0, 6)", Boundaries::played, y -> y.heard(0, 6), NO_SUCH);
        refused("heard(0, -1)", Boundaries::played, y -> y.heard(0, -1), NO_SUCH);
        refused("heard(6, 6)", Boundaries::played, y -> y.heard(6, 6), NO_SUCH);
    }

    private void winner() {
        sentence(WINNER, "Returns the town that would get the point of a town in the next turn.");
        changesNothing("winner", Boundaries::played, x -> x.winner(3));
        sentence(WINNER, "ear: 0 to 5: the town in which it is heard");
        towns("winner", QueryBoundaries::ends, (x, ear) -> x.winner(ear), 0, 5);
        sentence(WINNER, "Returns the town;");
        BellTowns x = ring(ring(new BellTowns(), 0, 5), 5, 4);
        x.set(FADE, 0);
        is("winner(5) of 5 and 4", x.winner(5), 0);
        x.hang(5, 2);
        x.plan(5, 3);
        is("winner(0) of 5 and 6", x.winner(0), 5);
        sentence(WINNER, "NO_SUCH if there is no such town;");
        refused("winner(-1)", Boundaries::played, y -> y.winner(-1), NO_SUCH);
        refused("winner(6)", Boundaries::played, y -> y.winner(6), NO_SUCH);
        sentence(WINNER, "NONE if no town would get it.");
        is("winner(0) of none", new BellTowns().winner(0), NONE);
        x.melt(5, 1);
        x.hang(5, 1);
        x.plan(5, 3);
        is("winner(0) of 5 and 5", x.winner(0), NONE);
        is("winner(5) of 5 and 5", x.winner(5), NONE);
        x.set(FADE, 1);
        is("winner(1) of 1 and 0", x.winner(1), 0);
        is("winner(2) of 0 and 0", x.winner(2), NONE);
        x.set(FADE, 2);
        is("winner(1) of 0 and 0", x.winner(1), NONE);
        is("winner(0) of 5 and 0", x.winner(0), 0);
        x.turns(1);
        is("winner(0) of a silent town and 0", x.winner(0), NONE);
    }
}
