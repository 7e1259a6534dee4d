/** What the document says of towns, bells and settings, and of an object's last call. */
final class TownBoundaries extends Boundaries {
    private static final String TOWNS = "Towns and bells";

    TownBoundaries(Due due, Sentences sentences) {
        super(due, sentences);
    }

    @Override
    void all() {
        sixTowns();
        firstMilestones();
        ringersOfTowns();
        fiveBells();
        weights();
        wears();
        wornToTheBreak();
        ringersOfBells();
        firstPlans();
        feastDays();
        silenceAndTired();
        fade();
        rest();
        last512thCall();
        last512thScript();
    }

    private void sixTowns() {
        sentence(TOWNS, "There are 6 towns, 0 to 5");
        BellTowns x = new BellTowns();
        is("town(-1, 3)", x.town(-1, 3), NO_SUCH);
        for (int town = 0; town <= 5; town++) {
            is("town(" + town + ", 3)", x.town(town, 3), 0);
        }
        is("town(6, 3)", x.town(6, 3), NO_SUCH);
    }

    private void firstMilestones() {
        sentence(TOWNS, "the town k is at the milestone 4 * k, if it is not moved");
        BellTowns x = new BellTowns();
        int[] wants = {0, 4, 8, 12, 16, 20};
        for (int town = 0; town <= 5; town++) {
            is("milestone of " + town, x.town(town, 0), wants[town]);
        }
        x.settle(5, 1, 8);
        is("milestone of 5, which is moved", x.town(5, 0), 1);
        is("milestone of 4, which is not", x.town(4, 0), 16);
    }

    private void ringersOfTowns() {
        sentence(TOWNS, "Each town has ringers (1 to 20; 8 at first)");
        BellTowns x = new BellTowns();
        for (int town = 0; town <= 5; town++) {
            is("ringers of " + town, x.town(town, 1), 8);
        }
        is("settle(0, 0, 0)", x.settle(0, 0, 0), BAD_VALUE);
        is("settle(0, 0, 1)", x.settle(0, 0, 1), 0);
        is("ringers of 0", x.town(0, 1), 1);
        is("settle(0, 0, 20)", x.settle(0, 0, 20), 0);
        is("ringers of 0", x.town(0, 1), 20);
        is("settle(0, 0, 21)", x.settle(0, 0, 21), BAD_VALUE);
        is("ringers of 0", x.town(0, 1), 20);
    }

    private void fiveBells() {
        sentence(TOWNS, "at most 5 bells, numbered from 0 in the order in which they were hung");
        BellTowns x = new BellTowns();
        is("bell(4, 0, 0) of none", x.bell(4, 0, 0), NO_SUCH);
        int[] weights = {3, 9, 1, 7, 5};
        for (int bell = 0; bell < 5; bell++) {
            is("hang as the bell " + bell, x.hang(4, weights[bell]), bell);
            is("bells", x.town(4, 3), bell + 1);
            is("the bell behind it", x.bell(4, bell + 1, 0), NO_SUCH);
        }
        is("hang as the sixth", x.hang(4, 2), TOO_MANY);
        is("bells", x.town(4, 3), 5);
        is("the bell before the first", x.bell(4, -1, 0), NO_SUCH);
        for (int bell = 0; bell < 5; bell++) {
            is("weight of " + bell, x.bell(4, bell, 0), weights[bell]);
        }
        is("bells of another town", x.town(3, 3), 0);
    }

    private void weights() {
        sentence(TOWNS, "a bell has a weight from 1 to 9");
        BellTowns x = new BellTowns();
        is("hang(0, 0)", x.hang(0, 0), BAD_VALUE);
        is("hang(0, 1)", x.hang(0, 1), 0);
        is("weight", x.bell(0, 0, 0), 1);
        is("hang(0, 9)", x.hang(0, 9), 1);
        is("weight", x.bell(0, 1, 0), 9);
        is("hang(0, 10)", x.hang(0, 10), BAD_VALUE);
        is("bells", x.town(0, 3), 2);
    }

    /** With REST 1 the only town rings in every second turn. */
    private void wears() {
        sentence(TOWNS, "a wear of its rope from 0 to 6 (0 at first)");
        BellTowns x = ring(new BellTowns(), 1, 2);
        is("wear at first", x.bell(1, 0, 1), 0);
        for (int turn = 0; turn < 20; turn++) {
            x.turns(1);
            is("wear behind the turn " + turn, x.bell(1, 0, 1), Math.min(6, turn / 2 + 1));
        }
        x.turns(50);
        is("wear behind 50 turns more", x.bell(1, 0, 1), 6);
        is("rung so far", x.bell(1, 0, 3), 6);
        x.hang(1, 2);
        is("wear of a new bell beside it", x.bell(1, 1, 1), 0);
    }

    private void wornToTheBreak() {
        sentence(TOWNS, "A rope with the wear 6 is broken.");
        BellTowns x = ring(new BellTowns(), 1, 2);
        x.turns(10);
        is("wear", x.bell(1, 0, 1), 5);
        is("broken ropes with the wear 5", x.count(2), 0);
        is("loudness with the wear 5", x.loudness(1), 2);
        is("reason with the wear 5", x.bell(1, 0, 4), 0);
        x.turns(2);
        is("wear", x.bell(1, 0, 1), 6);
        is("broken ropes with the wear 6", x.count(2), 1);
        is("loudness with the wear 6", x.loudness(1), 0);
        is("reason with the wear 6", x.bell(1, 0, 4), 3);
    }

    private void ringersOfBells() {
        sentence(TOWNS,
            "To ring a bell takes as many ringers as half of its weight, rounded up.");
        int[] wants = {1, 1, 2, 2, 3, 3, 4, 4, 5};
        for (int weight = 1; weight <= 9; weight++) {
            int takes = wants[weight - 1];
            BellTowns x = ring(new BellTowns(), 2, weight);
            is("ringers for " + weight, x.bell(2, 0, 2), takes);
            ringers(x, 2, takes);
            is("loudness with enough for " + weight, x.loudness(2), weight);
            if (takes > 1) {
                ringers(x, 2, takes - 1);
                is("loudness with one too few for " + weight, x.loudness(2), 0);
            }
        }
    }

    private void firstPlans() {
        sentence(TOWNS, "Each town has a plan: a set of its bells (none at first)");
        BellTowns x = new BellTowns();
        for (int town = 0; town <= 5; town++) {
            is("plan of " + town, x.town(town, 4), 0);
        }
        is("plan of no bell", x.plan(5, 0), 0);
        is("plan of a bell that is not its own", x.plan(5, 1), BAD_VALUE);
        x.hang(5, 1);
        is("plan behind hanging", x.town(5, 4), 0);
        is("reason", x.bell(5, 0, 4), 2);
        is("plan of its bell", x.plan(5, 1), 0);
        is("reason", x.bell(5, 0, 4), 0);
        x.hang(5, 2);
        is("plan behind hanging a second", x.town(5, 4), 1);
        is("reason of the second", x.bell(5, 1, 4), 2);
    }

    private void feastDays() {
        sentence(TOWNS, "a feast day from 0 to 6 (the number of the town at first)");
        BellTowns x = new BellTowns();
        for (int town = 0; town <= 5; town++) {
            is("feast day of " + town, x.town(town, 5), town);
        }
        is("feast(2, -1)", x.feast(2, -1), BAD_VALUE);
        is("feast(2, 0)", x.feast(2, 0), 2);
        is("feast(2, 6)", x.feast(2, 6), 0);
        is("feast(2, 7)", x.feast(2, 7), BAD_VALUE);
        is("feast day of 2", x.town(2, 5), 6);
    }

    private void silenceAndTired() {
        sentence(TOWNS,
            "It has a silence: a number of turns (0 at first), and tired ringers (0 at first).");
        BellTowns x = new BellTowns();
        for (int town = 0; town <= 5; town++) {
            is("silence of " + town, x.town(town, 6), 0);
            is("tired ringers of " + town, x.town(town, 2), 0);
        }
        is("silent towns", x.count(3), 0);
    }

    private void fade() {
        sentence("Settings", "FADE (0 to 9; 1 at first): what a sound loses in a mile.");
        BellTowns x = ring(new BellTowns(), 0, 8, 8);
        x.settle(1, 1, 8);
        is("FADE at first", x.count(7), 1);
        is("heard(0, 1) at first", x.heard(0, 1), 15);
        is("set(FADE, -1)", x.set(FADE, -1), BAD_VALUE);
        is("set(FADE, 0)", x.set(FADE, 0), 1);
        is("heard(0, 1) with 0", x.heard(0, 1), 16);
        is("heard(0, 5) with 0", x.heard(0, 5), 16);
        is("set(FADE, 9)", x.set(FADE, 9), 0);
        is("heard(0, 1) with 9", x.heard(0, 1), 7);
        is("set(FADE, 10)", x.set(FADE, 10), BAD_VALUE);
        is("FADE", x.count(7), 9);
    }

    private void rest() {
        sentence("Settings",
            "REST (1 to 3; 1 at first): the turns for which the loudest town is silent.");
        BellTowns x = ring(new BellTowns(), 3, 1);
        is("REST at first", x.count(8), 1);
        is("set(REST, 0)", x.set(REST, 0), BAD_VALUE);
        is("set(REST, 4)", x.set(REST, 4), BAD_VALUE);
        is("set(REST, 1)", x.set(REST, 1), 1);
        is("set(REST, 3)", x.set(REST, 3), 1);
        is("REST", x.count(8), 3);
        for (int rest = 1; rest <= 3; rest++) {
            BellTowns y = ring(new BellTowns(), 3, 1);
            y.set(REST, rest);
            is("the loudest", y.turns(1), 3);
            for (int turn = 0; turn < rest; turn++) {
                is("silent for the turn " + turn + " of " + rest, y.turns(1), NONE);
            }
            is("the loudest behind " + rest, y.turns(1), 3);
        }
    }

    private void last512thCall() {
        sentence("What it is", "An object is used for at most 512 calls after it has been made");
        BellTowns x = new BellTowns();
        x.hang(0, 5);
        x.hang(1, 6);
        for (int call = 3; call <= 505; call++) {
            x.turns(50);
        }
        is("the turn", x.count(0), 503 * 50);
        // 25150 modulo 7 is 6: the feast of the town 0 is in the turn behind the next one.
        is("reason on the eve of the feast", x.bell(0, 0, 4), 2);
        x.turns(1);
        is("reason on the feast", x.bell(0, 0, 4), 3);
        is("splice", x.splice(0, 0), 6);
        is("reason on the feast", x.bell(0, 0, 4), 0);
        is("the 512th call", x.turns(1), 0);
    }

    private void last512thScript() {
        sentence("What it is", "An object is used for at most 512 calls after it has been made");
        BellTowns x = new BellTowns();
        write(x, "t9;t9;t9;t9;t9;t9;t9;t9;t9;t9;t9;t9;t9;t9;t9;t9;t9;t9;t9;t9");
        for (int call = 60; call <= 508; call++) {
            x.run();
        }
        // Now it is the turn 449 * 180, which modulo 7 is 5.
        is("hang", x.hang(3, 4), 0);
        is("feast", x.feast(3, 5), 3);
        is("loudness on the feast", x.loudness(3), 4);
        is("the 512th call", x.turns(1), 3);
    }
}
