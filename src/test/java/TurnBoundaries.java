/** What the document says of a turn. */
final class TurnBoundaries extends Boundaries {
    private static final String TURN = "A turn";

    TurnBoundaries(Due due, Sentences sentences) {
        super(due, sentences);
    }

    @Override
    void all() {
        numberedFromZero();
        silentTownRingsNothing();
        feastWrapsAround();
        plannedOrAll();
        inOrder();
        brokenLeftOut();
        tooFewLeftOut();
        tiredLeftOut();
        eachOtherOne();
        sumOfWeights();
        loudestOfSeveral();
        noneLoudest();
        heardAtLeastZero();
        heardMoreThanEachOther();
        heardAlike();
        ropesWear();
        halfAreTired();
        tiredAreRested();
        silenceBecomesLess();
        silenceBecomesRest();
    }

    /** The town 0 has its feast in the turn 0, the town 1 in the turn 1. */
    private void numberedFromZero() {
        sentence(TURN, "Turns are numbered from 0.");
        BellTowns x = new BellTowns();
        x.hang(0, 3);
        x.hang(1, 3);
        is("the number of the first turn", x.count(0), 0);
        is("loudness(0) in the first turn", x.loudness(0), 3);
        is("loudness(1) in the first turn", x.loudness(1), 0);
        is("turns(1)", x.turns(1), 0);
        is("the number of the second turn", x.count(0), 1);
        is("loudness(1) in the second turn", x.loudness(1), 3);
    }

    private void silentTownRingsNothing() {
        sentence(TURN, "A town with a silence above 0 rings no bell.");
        BellTowns x = ring(new BellTowns(), 1, 4, 2);
        x.feast(1, 1);
        is("the loudest of the turn 0", x.turns(1), 1);
        is("silence", x.town(1, 6), 1);
        is("loudness with the silence 1, on the feast", x.loudness(1), 0);
        is("reason", x.bell(1, 0, 4), 1);
        is("the loudest of the turn 1", x.turns(1), NONE);
        is("rung so far", x.bell(1, 0, 3), 1);
        is("silence", x.town(1, 6), 0);
        is("loudness with the silence 0", x.loudness(1), 6);
        is("the loudest of the turn 2", x.turns(1), 1);
    }

    private void feastWrapsAround() {
        sentence(TURN, "if the number of the turn modulo 7 is its feast day, all of its bells");
        for (int day = 0; day <= 6; day++) {
            BellTowns x = new BellTowns();
            x.hang(3, 1);
            x.feast(3, day);
            for (int turn = 0; turn <= 22; turn++) {
                boolean isFeast = turn == day || turn == day + 7 || turn == day + 14
                    || turn == day + 21;
                is("feast day " + day + ", turn " + turn, x.loudness(3), isFeast ? 1 : 0);
                is("the loudest", x.turns(1), isFeast ? 3 : NONE);
            }
        }
    }

    private void plannedOrAll() {
        sentence(TURN, "Each other town wants to ring the bells of its plan, or,");
        BellTowns x = new BellTowns();
        x.hang(3, 1);
        x.hang(3, 2);
        x.hang(3, 4);
        x.feast(3, 6);
        x.turns(5);
        int[] loudnesses = {0, 1, 2, 3, 4, 5, 6, 7};
        for (int bells = 0; bells <= 7; bells++) {
            x.plan(3, bells);
            is("loudness on the eve with the plan " + bells, x.loudness(3), loudnesses[bells]);
        }
        x.plan(3, 0);
        x.turns(1);
        for (int bells = 0; bells <= 7; bells++) {
            x.plan(3, bells);
            is("loudness on the feast with the plan " + bells, x.loudness(3), 7);
        }
        x.plan(3, 0);
        x.turns(7);
        is("loudness on the next feast", x.loudness(3), 7);
        x.feast(3, 0);
        is("loudness if the feast is a day later", x.loudness(3), 0);
    }

    private void inOrder() {
        sentence(TURN, "Of the bells that it wants to ring it takes one after the other, "
            + "in the order of their numbers;");
        BellTowns x = ring(new BellTowns(), 2, 9, 8);
        is("loudness of 9 and 8 with 8 ringers", x.loudness(2), 9);
        BellTowns y = ring(new BellTowns(), 2, 8, 9);
        is("loudness of 8 and 9 with 8 ringers", y.loudness(2), 8);
        BellTowns z = ring(new BellTowns(), 2, 8, 9, 8);
        is("loudness of 8, 9 and 8 with 8 ringers", z.loudness(2), 16);
        z.plan(2, 0b110);
        is("loudness of 9 and 8, the first not wanted", z.loudness(2), 9);
    }

    /** A rope that is broken takes no ringers: the second bell finds all of them. */
    private void brokenLeftOut() {
        sentence(TURN, "a bell whose rope is broken,");
        BellTowns x = ring(new BellTowns(), 0, 9);
        x.feast(0, 6);
        x.turns(12);
        is("wear", x.bell(0, 0, 1), 6);
        x.hang(0, 9);
        x.plan(0, 3);
        ringers(x, 0, 5);
        is("reason of the broken one", x.bell(0, 0, 4), 3);
        is("reason of the next one", x.bell(0, 1, 4), 0);
        is("loudness", x.loudness(0), 9);
        x.turns(1);
        is("wear of the broken one", x.bell(0, 0, 1), 6);
        is("rung so far, the broken one", x.bell(0, 0, 3), 6);
        is("rung so far, the next one", x.bell(0, 1, 3), 1);
    }

    private void tooFewLeftOut() {
        sentence(TURN, "or for which the ringers who are not tired and not at another bell are "
            + "too few, is left out (the next ones are tried);");
        BellTowns x = ring(new BellTowns(), 4, 9, 8, 1, 2, 1);
        int[] loudnesses = {1, 3, 4, 8, 9, 10, 12, 13, 17, 18};
        for (int ringers = 1; ringers <= loudnesses.length; ringers++) {
            ringers(x, 4, ringers);
            is("loudness with " + ringers, x.loudness(4), loudnesses[ringers - 1]);
        }
        ringers(x, 4, 4);
        is("reason of 9 with four ringers", x.bell(4, 0, 4), 4);
        is("reason of 8 with four ringers", x.bell(4, 1, 4), 0);
        is("reason of 1 with none left", x.bell(4, 2, 4), 4);
        x.turns(1);
        is("rung so far, 9", x.bell(4, 0, 3), 0);
        is("rung so far, 8", x.bell(4, 1, 3), 1);
        is("wear of the one that is left out", x.bell(4, 0, 1), 0);
    }

    /** The town 4 is the loudest, so that the town 1 is not silent, with two of eight tired. */
    private void tiredLeftOut() {
        sentence(TURN, "the ringers who are not tired and not at another bell are too few");
        BellTowns x = ring(new BellTowns(), 1, 9);
        ringers(x, 4, 20);
        ring(x, 4, 9, 9);
        is("the loudest", x.turns(1), 4);
        is("tired", x.town(1, 2), 2);
        x.hang(1, 2);
        x.hang(1, 1);
        x.plan(1, 7);
        is("reason of the five ringers' bell", x.bell(1, 0, 4), 0);
        is("reason of the bell for the last ringer", x.bell(1, 1, 4), 0);
        is("reason of the bell for nobody", x.bell(1, 2, 4), 4);
        is("loudness", x.loudness(1), 11);
        x.splice(1, 0);
        is("reason of the five ringers' bell, with four", x.bell(1, 0, 4), 4);
        is("reason of the last bell, with four", x.bell(1, 2, 4), 0);
        is("loudness behind splicing", x.loudness(1), 3);
    }

    private void eachOtherOne() {
        sentence(TURN, "each other one is rung.");
        BellTowns x = new BellTowns();
        for (int town = 0; town <= 5; town++) {
            ringers(x, town, 20);
            ring(x, town, 8, 8, 8, 8, 8);
        }
        x.turns(1);
        for (int town = 0; town <= 5; town++) {
            for (int bell = 0; bell <= 4; bell++) {
                is("rung so far", x.bell(town, bell, 3), 1);
            }
        }
    }

    private void sumOfWeights() {
        sentence(TURN, "The loudness of a town is the sum of the weights of the bells that it "
            + "rings.");
        BellTowns x = new BellTowns();
        is("loudness without a bell", x.loudness(5), 0);
        x.hang(5, 8);
        is("loudness of a bell that is not rung", x.loudness(5), 0);
        x.plan(5, 1);
        is("loudness of one bell", x.loudness(5), 8);
        ringers(x, 5, 20);
        ring(x, 5, 8, 8, 8, 8);
        x.plan(5, 31);
        is("loudness of five bells", x.loudness(5), 40);
        is("loudness of another town", x.loudness(4), 0);
    }

    private void loudestOfSeveral() {
        sentence(TURN, "The loudest town is the one with the greatest loudness, of several the "
            + "one with the lowest number;");
        BellTowns x = new BellTowns();
        for (int town = 5; town >= 0; town--) {
            ring(x, town, 4);
        }
        for (int town = 0; town <= 5; town++) {
            x.set(REST, 3);
            is("the loudest of those alike, turn " + town, x.turns(1), town <= 3 ? town
                : town - 4);
        }
        BellTowns y = ring(ring(ring(new BellTowns(), 5, 9), 2, 9), 0, 8);
        is("the loudest of 8, 9 and 9", y.turns(1), 2);
        BellTowns z = ring(ring(new BellTowns(), 0, 8), 5, 9);
        is("the loudest of 8 and 9", z.turns(1), 5);
        is("how often 5 was the loudest", z.town(5, 8), 1);
        is("how often 0 was the loudest", z.town(0, 8), 0);
    }

    private void noneLoudest() {
        sentence(TURN, "there is none if no bell is rung.");
        BellTowns x = new BellTowns();
        is("without a bell", x.turns(1), NONE);
        x.hang(3, 1);
        is("with a bell that no town wants to ring", x.turns(1), NONE);
        x.plan(3, 1);
        is("with a bell that is rung", x.turns(1), 3);
        is("with a silent town alone", x.turns(1), NONE);
        is("turns without a loudest town", x.count(5), 3);
        is("silent towns", x.count(3), 0);
    }

    private void heardAtLeastZero() {
        sentence(TURN, "In each town (its own included) a town is heard with its loudness, less "
            + "FADE times the miles between both, but at least 0.");
        BellTowns x = ring(new BellTowns(), 0, 8);
        is("8 in its own town", x.heard(0, 0), 8);
        is("8 at 4 miles", x.heard(0, 1), 4);
        is("8 at 8 miles", x.heard(0, 2), 0);
        is("8 at 20 miles", x.heard(0, 5), 0);
        x.settle(2, 7, 8);
        is("8 at 7 miles", x.heard(0, 2), 1);
        x.settle(2, 9, 8);
        is("8 at 9 miles", x.heard(0, 2), 0);
        x.settle(5, 40, 8);
        x.set(FADE, 9);
        is("8 at 40 miles, with FADE 9", x.heard(0, 5), 0);
        is("8 in its own town, with FADE 9", x.heard(0, 0), 8);
        x.settle(0, 39, 8);
        is("8 at a mile, with FADE 9", x.heard(0, 5), 0);
        x.set(FADE, 8);
        is("8 at a mile, with FADE 8", x.heard(0, 5), 0);
        x.set(FADE, 7);
        is("8 at a mile, with FADE 7", x.heard(0, 5), 1);
        is("8 at 23 miles, with FADE 7", x.heard(0, 4), 0);
    }

    private void heardMoreThanEachOther() {
        sentence(TURN, "The town that is heard there with more than each other one gets a "
            + "point;");
        BellTowns x = ring(ring(new BellTowns(), 0, 8), 5, 9);
        x.set(FADE, 0);
        x.turns(1);
        is("points of 9 in all six towns", x.town(5, 7), 6);
        is("points of 8", x.town(0, 7), 0);
        // Both at home, and in the next town: 8 at 4 miles is 4, 9 at 4 miles is 5.
        BellTowns y = ring(ring(new BellTowns(), 2, 8), 3, 9);
        is("winner(2)", y.winner(2), 2);
        is("winner(3)", y.winner(3), 3);
        is("winner(1)", y.winner(1), 2);
        is("winner(0): 0 and 0", y.winner(0), NONE);
        is("winner(5)", y.winner(5), 3);
        y.turns(1);
        is("points of 2", y.town(2, 7), 2);
        is("points of 3", y.town(3, 7), 3);
    }

    private void heardAlike() {
        sentence(TURN, "if several are heard alike with the most, or none with more than 0, no "
            + "town gets this point.");
        is("points of none", alike(), 0);
        is("points of 5 and 5", alike(5, 5), 0);
        is("points of 5, 5 and 4", alike(5, 5, 4), 0);
        is("points of 4, 5 and 5", alike(4, 5, 5), 0);
        is("points of 5, 4 and 5", alike(5, 4, 5), 0);
        is("points of 5, 5 and 6", alike(5, 5, 6), 6);
        is("points of 6, 5 and 5", alike(6, 5, 5), 6);
        is("points of 5, 6 and 5", alike(5, 6, 5), 6);
        is("points of 5, 5, 6 and 6", alike(5, 5, 6, 6), 0);
        is("points of six times 1", alike(1, 1, 1, 1, 1, 1), 0);
        is("points of 1", alike(1), 6);
        BellTowns x = ring(new BellTowns(), 0, 8);
        is("winner(1), heard with 4", x.winner(1), 0);
        is("winner(2), heard with 0", x.winner(2), NONE);
        x.turns(1);
        is("points of 8", x.town(0, 7), 2);
        BellTowns y = ring(new BellTowns(), 0, 9);
        is("winner(2), heard with 1", y.winner(2), 0);
        y.turns(1);
        is("points of 9", y.town(0, 7), 3);
    }

    /** All points of a turn in which the towns from 0 on ring these weights, without fading. */
    private static int alike(int... weights) {
        BellTowns x = new BellTowns();
        x.set(FADE, 0);
        for (int town = 0; town < weights.length; town++) {
            ring(x, town, weights[town]);
        }
        x.turns(1);
        return x.count(4);
    }

    private void ropesWear() {
        sentence(TURN, "The rope of each bell that is rung wears by 1.");
        BellTowns x = ring(new BellTowns(), 0, 1, 1, 1, 9, 1);
        x.plan(0, 0b11011);
        x.feast(0, 6);
        ringers(x, 0, 3);
        ring(x, 5, 1);
        x.turns(1);
        int[] wants = {1, 1, 0, 0, 1};
        for (int bell = 0; bell <= 4; bell++) {
            is("wear of " + bell, x.bell(0, bell, 1), wants[bell]);
            is("rung so far, " + bell, x.bell(0, bell, 3), wants[bell]);
        }
        is("wear in a town that is not the loudest", x.bell(5, 0, 1), 1);
        x.turns(1);
        is("wear in a silent town", x.bell(0, 0, 1), 1);
        is("wear in the other town", x.bell(5, 0, 1), 2);
    }

    private void halfAreTired() {
        sentence(TURN, "In each town as many ringers are tired now as half of those who rang, "
            + "rounded down");
        int[][] bells = {{}, {2}, {4}, {6}, {8}, {9}, {9, 1}, {9, 4}, {8, 8}, {9, 9, 9, 8},
            {9, 9, 9, 9}};
        int[] wants = {0, 0, 1, 1, 2, 2, 3, 3, 4, 9, 10};
        for (int i = 0; i < bells.length; i++) {
            BellTowns x = new BellTowns();
            ringers(x, 4, 20);
            ring(x, 4, bells[i]);
            x.turns(1);
            is("tired behind the bells " + i, x.town(4, 2), wants[i]);
            is("tired elsewhere", x.town(3, 2), 0);
        }
        BellTowns all = new BellTowns();
        for (int town = 0; town <= 5; town++) {
            ring(all, town, 9, 4);
        }
        all.turns(1);
        for (int town = 0; town <= 5; town++) {
            is("tired in " + town, all.town(town, 2), 3);
            is("wear in " + town, all.bell(town, 1, 1), 1);
        }
        all.turns(1);
        is("tired in 0, which was silent", all.town(0, 2), 0);
        is("tired in 5, where five could ring 9 alone", all.town(5, 2), 2);
    }

    private void tiredAreRested() {
        sentence(TURN, "(before that, all who were tired are rested)");
        BellTowns x = ring(new BellTowns(), 1, 9);
        ringers(x, 4, 20);
        ring(x, 4, 9, 9);
        x.feast(4, 6);
        x.turns(1);
        is("tired of the loudest", x.town(4, 2), 5);
        is("tired of the other", x.town(1, 2), 2);
        x.turns(1);
        is("tired of the town that was silent", x.town(4, 2), 0);
        is("tired of the town that rang again", x.town(1, 2), 2);
        x.turns(1);
        is("tired of the town that was silent", x.town(1, 2), 0);
        x.splice(1, 0);
        is("tired behind splicing", x.town(1, 2), 2);
        x.plan(1, 0);
        x.turns(1);
        is("tired of the town that wanted no bell", x.town(1, 2), 0);
    }

    private void silenceBecomesLess() {
        sentence(TURN, "Each silence above 0 becomes 1 less.");
        BellTowns x = ring(ring(ring(new BellTowns(), 0, 3), 3, 2), 5, 1);
        x.set(REST, 3);
        x.turns(1);
        x.plan(0, 0);
        x.feast(0, 6);
        int[][] wants = {{3, 0, 0}, {2, 3, 0}, {1, 2, 3}, {0, 1, 2}, {0, 0, 1}};
        for (int[] want : wants) {
            is("silence of 0", x.town(0, 6), want[0]);
            is("silence of 3", x.town(3, 6), want[1]);
            is("silence of 5", x.town(5, 6), want[2]);
            is("silence of 1", x.town(1, 6), 0);
            x.turns(1);
        }
    }

    private void silenceBecomesRest() {
        sentence(TURN, "Then the silence of the loudest town becomes REST.");
        BellTowns x = ring(ring(new BellTowns(), 1, 2), 2, 1);
        is("the loudest", x.turns(1), 1);
        is("silence with REST 1", x.town(1, 6), 1);
        x.set(REST, 3);
        is("silence behind the set", x.town(1, 6), 1);
        is("the loudest", x.turns(1), 2);
        is("silence of the one before", x.town(1, 6), 0);
        is("silence with REST 3", x.town(2, 6), 3);
        x.set(REST, 2);
        is("the loudest", x.turns(1), 1);
        is("silence with REST 2", x.town(1, 6), 2);
        is("silence of the other", x.town(2, 6), 2);
    }
}
