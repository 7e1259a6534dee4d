/**
 * A game of bell towns in which the loudest one has to fall silent.
 *
 * A call of the face looks at its arguments first, and changes nothing if it answers an error
 * code. All room is made in the constructor, so that no later call makes an object.
 */
public final class BellTowns {
    public static final int NO_SUCH = -1;
    public static final int BAD_VALUE = -2;
    public static final int TOO_MANY = -3;
    public static final int NOT_POSSIBLE = -4;
    public static final int NONE = -5;
    public static final int FADE = 0, REST = 1;

    private static final int NO_ERROR = 0;

    private static final int TOWNS = 6;
    private static final int FIRST_MILES_APART = 4;
    private static final int FARTHEST_MILESTONE = 40;
    private static final int FIRST_RINGERS = 8;
    private static final int MOST_RINGERS = 20;
    private static final int DAYS = 7;

    private static final int MOST_BELLS = 5;
    private static final int GREATEST_WEIGHT = 9;
    private static final int BROKEN = 6;
    private static final int SPLICERS = 2;

    private static final int SETTINGS = 2;
    private static final int GREATEST_FADE = 9;
    private static final int LEAST_REST = 1;
    private static final int GREATEST_REST = 3;

    private static final int MOST_TURNS = 50;
    private static final int MOST_STATES = 5;
    private static final int LONGEST_TEXT = 60;
    private static final int FIRST_CHARACTER = 32;
    private static final int LAST_CHARACTER = 126;
    private static final int FAULT_BASE = -100;

    private static final int RUNG = 0;
    private static final int TOWN_SILENT = 1;
    private static final int NOT_WANTED = 2;
    private static final int ROPE_BROKEN = 3;
    private static final int RINGERS_TOO_FEW = 4;

    private final Valley now;
    private final Valley trial;
    private final Valley snapshot;
    private boolean snapshotTaken;
    private final History history;
    private final Ringing ringing;
    private final Script script;

    public BellTowns() {
        now = new Valley();
        trial = new Valley();
        snapshot = new Valley();
        snapshotTaken = false;
        history = new History();
        ringing = new Ringing();
        script = new Script();
    }

    // ---- towns and bells

    public int hang(int town, int weight) {
        if (!isTown(town)) {
            return NO_SUCH;
        }
        if (weight < 1 || weight > GREATEST_WEIGHT) {
            return BAD_VALUE;
        }
        if (now.bellCounts[town] >= MOST_BELLS) {
            return TOO_MANY;
        }
        history.record(now);
        return now.addBell(town, weight);
    }

    public int melt(int town, int bell) {
        if (!now.hasBell(town, bell)) {
            return NO_SUCH;
        }
        history.record(now);
        int weight = now.weights[slot(town, bell)];
        now.removeBell(town, bell);
        return weight;
    }

    public int settle(int town, int milestone, int ringers) {
        if (!isTown(town)) {
            return NO_SUCH;
        }
        if (milestone < 0 || milestone > FARTHEST_MILESTONE) {
            return BAD_VALUE;
        }
        if (ringers < 1 || ringers > MOST_RINGERS) {
            return BAD_VALUE;
        }
        if (now.isTakenByAnother(milestone, town)) {
            return NOT_POSSIBLE;
        }
        history.record(now);
        now.milestones[town] = milestone;
        now.ringers[town] = ringers;
        now.tired[town] = Math.min(now.tired[town], ringers);
        return now.tired[town];
    }

    public int plan(int town, int bells) {
        int error = planError(town, bells);
        if (error != NO_ERROR) {
            return error;
        }
        history.record(now);
        return changePlan(town, bells);
    }

    public int splice(int town, int bell) {
        int error = spliceError(town, bell);
        if (error != NO_ERROR) {
            return error;
        }
        history.record(now);
        return mendRope(town, bell);
    }

    public int feast(int town, int day) {
        if (!isTown(town)) {
            return NO_SUCH;
        }
        if (day < 0 || day >= DAYS) {
            return BAD_VALUE;
        }
        history.record(now);
        int previous = now.feastDays[town];
        now.feastDays[town] = day;
        return previous;
    }

    public int set(int setting, int value) {
        if (setting < 0 || setting >= SETTINGS) {
            return NO_SUCH;
        }
        if (!isInRange(setting, value)) {
            return BAD_VALUE;
        }
        history.record(now);
        int previous = setting == FADE ? now.fade : now.rest;
        if (setting == FADE) {
            now.fade = value;
        } else {
            now.rest = value;
        }
        return previous;
    }

    // ---- turns

    public int turns(int many) {
        int error = turnsError(many);
        if (error != NO_ERROR) {
            return error;
        }
        history.record(now);
        makeTurns(now, many);
        return now.latestLoudest;
    }

    // ---- text

    public int append(int character) {
        if (character < FIRST_CHARACTER || character > LAST_CHARACTER) {
            return BAD_VALUE;
        }
        if (script.length >= LONGEST_TEXT) {
            return TOO_MANY;
        }
        script.add((char) character);
        return script.length;
    }

    public int clearText() {
        int previous = script.length;
        script.length = 0;
        return previous;
    }

    public int fault() {
        return script.firstFault();
    }

    public int run() {
        int found = script.firstFault();
        if (found != NONE) {
            return FAULT_BASE - found;
        }
        history.record(now);
        int done = 0;
        for (int index = 0; index < script.length; index++) {
            if (script.beginsOrder(index)) {
                if (!carryOut(index)) {
                    return done;
                }
                done++;
            }
        }
        return done;
    }

    // ---- history and snapshot

    public int undo() {
        if (history.size == 0) {
            return NONE;
        }
        history.takeBack(now);
        return history.size;
    }

    public int save() {
        snapshot.copyFrom(now);
        snapshotTaken = true;
        return now.turn;
    }

    public int restore() {
        if (!snapshotTaken) {
            return NOT_POSSIBLE;
        }
        history.record(now);
        now.copyFrom(snapshot);
        return now.turn;
    }

    // ---- queries; they change nothing

    public int town(int town, int what) {
        if (!isTown(town)) {
            return NO_SUCH;
        }
        switch (what) {
            case 0:
                return now.milestones[town];
            case 1:
                return now.ringers[town];
            case 2:
                return now.tired[town];
            case 3:
                return now.bellCounts[town];
            case 4:
                return now.plans[town];
            case 5:
                return now.feastDays[town];
            case 6:
                return now.silences[town];
            case 7:
                return now.points[town];
            case 8:
                return now.timesLoudest[town];
            default:
                return BAD_VALUE;
        }
    }

    public int bell(int town, int bell, int what) {
        if (!now.hasBell(town, bell)) {
            return NO_SUCH;
        }
        int slot = slot(town, bell);
        switch (what) {
            case 0:
                return now.weights[slot];
            case 1:
                return now.wears[slot];
            case 2:
                return ringersFor(now.weights[slot]);
            case 3:
                return now.timesRung[slot];
            case 4:
                ringing.foresee(now);
                return ringing.reasons[slot];
            default:
                return BAD_VALUE;
        }
    }

    public int count(int what) {
        switch (what) {
            case 0:
                return now.turn;
            case 1:
                return now.allBells();
            case 2:
                return now.brokenRopes();
            case 3:
                return now.silentTowns();
            case 4:
                return now.allPoints();
            case 5:
                return now.turnsWithoutLoudest;
            case 6:
                return now.latestLoudest;
            case 7:
                return now.fade;
            case 8:
                return now.rest;
            case 9:
                return history.size;
            case 10:
                return script.length;
            default:
                return BAD_VALUE;
        }
    }

    public int loudness(int town) {
        if (!isTown(town)) {
            return NO_SUCH;
        }
        ringing.foresee(now);
        return ringing.volumes[town];
    }

    public int heard(int town, int ear) {
        if (!isTown(town) || !isTown(ear)) {
            return NO_SUCH;
        }
        ringing.foresee(now);
        return ringing.soundIn(now, town, ear);
    }

    public int winner(int ear) {
        if (!isTown(ear)) {
            return NO_SUCH;
        }
        ringing.foresee(now);
        return ringing.winners[ear];
    }

    // ---- what would be; nothing is changed

    public int ifPlanned(int town, int bells) {
        int error = planError(town, bells);
        if (error != NO_ERROR) {
            return error;
        }
        trial.copyFrom(now);
        return pointsWithPlan(town, bells);
    }

    public int bestPlan(int town) {
        if (!isTown(town)) {
            return NO_SUCH;
        }
        trial.copyFrom(now);
        int best = 0;
        int bestPoints = pointsWithPlan(town, best);
        int bestVolume = ringing.volumes[town];
        for (int bells = 1; bells <= now.everyBell(town); bells++) {
            int points = pointsWithPlan(town, bells);
            int volume = ringing.volumes[town];
            if (points > bestPoints || (points == bestPoints && volume < bestVolume)) {
                best = bells;
                bestPoints = points;
                bestVolume = volume;
            }
        }
        return best;
    }

    public int pointsIn(int town, int many) {
        if (!isTown(town)) {
            return NO_SUCH;
        }
        int error = turnsError(many);
        if (error != NO_ERROR) {
            return error;
        }
        trial.copyFrom(now);
        makeTurns(trial, many);
        return trial.points[town];
    }

    public double share(int town) {
        int all = now.allPoints();
        if (!isTown(town) || all == 0) {
            return 0.0;
        }
        return (double) now.points[town] / (double) all;
    }

    // ---- what several calls need

    private static boolean isTown(int town) {
        return town >= 0 && town < TOWNS;
    }

    private static int slot(int town, int bell) {
        return town * MOST_BELLS + bell;
    }

    private static int ringersFor(int weight) {
        return (weight + 1) / 2;
    }

    private static boolean isInRange(int setting, int value) {
        if (setting == FADE) {
            return value >= 0 && value <= GREATEST_FADE;
        }
        return value >= LEAST_REST && value <= GREATEST_REST;
    }

    private int planError(int town, int bells) {
        if (!isTown(town)) {
            return NO_SUCH;
        }
        // A mask above that of all bells of the town has a bell that the town does not have.
        if (bells < 0 || bells > now.everyBell(town)) {
            return BAD_VALUE;
        }
        return NO_ERROR;
    }

    private int changePlan(int town, int bells) {
        int previous = now.plans[town];
        now.plans[town] = bells;
        return previous;
    }

    private int spliceError(int town, int bell) {
        if (!now.hasBell(town, bell)) {
            return NO_SUCH;
        }
        if (now.wears[slot(town, bell)] == 0 || now.rested(town) < SPLICERS) {
            return NOT_POSSIBLE;
        }
        return NO_ERROR;
    }

    private int mendRope(int town, int bell) {
        int slot = slot(town, bell);
        int previous = now.wears[slot];
        now.wears[slot] = 0;
        now.tired[town] += SPLICERS;
        return previous;
    }

    private static int turnsError(int many) {
        return many < 1 || many > MOST_TURNS ? BAD_VALUE : NO_ERROR;
    }

    private void makeTurns(Valley valley, int many) {
        for (int made = 0; made < many; made++) {
            ringing.foresee(valley);
            valley.pass(ringing);
        }
    }

    /** The points in the next turn of the trial, in which only this town's plan is another. */
    private int pointsWithPlan(int town, int bells) {
        trial.plans[town] = bells;
        ringing.foresee(trial);
        return ringing.pointsOf(town);
    }

    /** Tells whether the order that begins there could be carried out. */
    private boolean carryOut(int start) {
        int letter = script.signAt(start);
        int first = script.digitAt(start + 1);
        if (letter == 't') {
            // A script has no number of turns for which turns would answer an error code.
            makeTurns(now, first);
            return true;
        }
        if (letter == 's') {
            int bell = script.digitAt(start + 2);
            if (spliceError(first, bell) != NO_ERROR) {
                return false;
            }
            mendRope(first, bell);
            return true;
        }
        int bells = script.bellsFrom(start + 2);
        if (planError(first, bells) != NO_ERROR) {
            return false;
        }
        changePlan(first, bells);
        return true;
    }

    /** The state: the towns with their bells, the settings, the turn, and what was counted. */
    private static final class Valley {
        final int[] milestones = new int[TOWNS];
        final int[] ringers = new int[TOWNS];
        final int[] tired = new int[TOWNS];
        final int[] bellCounts = new int[TOWNS];
        final int[] plans = new int[TOWNS];
        final int[] feastDays = new int[TOWNS];
        final int[] silences = new int[TOWNS];
        final int[] points = new int[TOWNS];
        final int[] timesLoudest = new int[TOWNS];
        final int[] weights = new int[TOWNS * MOST_BELLS];
        final int[] wears = new int[TOWNS * MOST_BELLS];
        final int[] timesRung = new int[TOWNS * MOST_BELLS];
        int fade = 1;
        int rest = LEAST_REST;
        int turn = 0;
        int turnsWithoutLoudest = 0;
        int latestLoudest = NONE;

        Valley() {
            for (int town = 0; town < TOWNS; town++) {
                milestones[town] = FIRST_MILES_APART * town;
                ringers[town] = FIRST_RINGERS;
                feastDays[town] = town;
            }
        }

        void copyFrom(Valley other) {
            copyTowns(other.milestones, milestones);
            copyTowns(other.ringers, ringers);
            copyTowns(other.tired, tired);
            copyTowns(other.bellCounts, bellCounts);
            copyTowns(other.plans, plans);
            copyTowns(other.feastDays, feastDays);
            copyTowns(other.silences, silences);
            copyTowns(other.points, points);
            copyTowns(other.timesLoudest, timesLoudest);
            copyBells(other.weights, weights);
            copyBells(other.wears, wears);
            copyBells(other.timesRung, timesRung);
            fade = other.fade;
            rest = other.rest;
            turn = other.turn;
            turnsWithoutLoudest = other.turnsWithoutLoudest;
            latestLoudest = other.latestLoudest;
        }

        private static void copyTowns(int[] from, int[] to) {
            System.arraycopy(from, 0, to, 0, TOWNS);
        }

        private static void copyBells(int[] from, int[] to) {
            System.arraycopy(from, 0, to, 0, TOWNS * MOST_BELLS);
        }

        boolean hasBell(int town, int bell) {
            return isTown(town) && bell >= 0 && bell < bellCounts[town];
        }

        /** The bit mask of all bells of the town. */
        int everyBell(int town) {
            return (1 << bellCounts[town]) - 1;
        }

        int rested(int town) {
            return ringers[town] - tired[town];
        }

        boolean isTakenByAnother(int milestone, int town) {
            for (int other = 0; other < TOWNS; other++) {
                if (other != town && milestones[other] == milestone) {
                    return true;
                }
            }
            return false;
        }

        int addBell(int town, int weight) {
            int bell = bellCounts[town];
            fillSlot(slot(town, bell), weight, 0, 0);
            bellCounts[town] = bell + 1;
            return bell;
        }

        void removeBell(int town, int bell) {
            int last = bellCounts[town] - 1;
            for (int behind = bell + 1; behind <= last; behind++) {
                int slot = slot(town, behind);
                fillSlot(slot - 1, weights[slot], wears[slot], timesRung[slot]);
            }
            fillSlot(slot(town, last), 0, 0, 0);
            bellCounts[town] = last;
            int before = plans[town] & ((1 << bell) - 1);
            int behind = plans[town] >> (bell + 1);
            plans[town] = before | (behind << bell);
        }

        private void fillSlot(int slot, int weight, int wear, int rung) {
            weights[slot] = weight;
            wears[slot] = wear;
            timesRung[slot] = rung;
        }

        /** The bit mask of the bells that a town which is not silent wants to ring. */
        int wantedBells(int town) {
            return turn % DAYS == feastDays[town] ? everyBell(town) : plans[town];
        }

        int allBells() {
            int sum = 0;
            for (int town = 0; town < TOWNS; town++) {
                sum += bellCounts[town];
            }
            return sum;
        }

        int brokenRopes() {
            int broken = 0;
            for (int slot = 0; slot < TOWNS * MOST_BELLS; slot++) {
                if (wears[slot] >= BROKEN) {
                    broken++;
                }
            }
            return broken;
        }

        int silentTowns() {
            int silent = 0;
            for (int town = 0; town < TOWNS; town++) {
                if (silences[town] > 0) {
                    silent++;
                }
            }
            return silent;
        }

        int allPoints() {
            int sum = 0;
            for (int town = 0; town < TOWNS; town++) {
                sum += points[town];
            }
            return sum;
        }

        /** Lets a turn pass in which this is rung. */
        void pass(Ringing rung) {
            givePoints(rung);
            wearRopes(rung);
            tireRingers(rung);
            fallSilent(rung.loudest);
            turn++;
        }

        private void givePoints(Ringing rung) {
            for (int ear = 0; ear < TOWNS; ear++) {
                int winner = rung.winners[ear];
                if (isTown(winner)) {
                    points[winner]++;
                }
            }
        }

        private void wearRopes(Ringing rung) {
            for (int slot = 0; slot < TOWNS * MOST_BELLS; slot++) {
                if (rung.reasons[slot] == RUNG) {
                    wears[slot]++;
                    timesRung[slot]++;
                }
            }
        }

        private void tireRingers(Ringing rung) {
            for (int town = 0; town < TOWNS; town++) {
                tired[town] = rung.ringersBusy[town] / 2;
            }
        }

        private void fallSilent(int loudest) {
            for (int town = 0; town < TOWNS; town++) {
                if (silences[town] > 0) {
                    silences[town]--;
                }
            }
            latestLoudest = loudest;
            if (isTown(loudest)) {
                silences[loudest] = rest;
                timesLoudest[loudest]++;
            } else {
                turnsWithoutLoudest++;
            }
        }
    }

    /** What is rung in the next turn of a valley, and which town is heard most in each town. */
    private static final class Ringing {
        /** For each bell why it is not rung, or RUNG; a place without a bell is not wanted. */
        final int[] reasons = new int[TOWNS * MOST_BELLS];
        final int[] volumes = new int[TOWNS];
        final int[] ringersBusy = new int[TOWNS];
        final int[] winners = new int[TOWNS];
        int loudest = NONE;

        void foresee(Valley valley) {
            loudest = NONE;
            int most = 0;
            for (int town = 0; town < TOWNS; town++) {
                ringIn(valley, town);
                if (volumes[town] > most) {
                    most = volumes[town];
                    loudest = town;
                }
            }
            for (int ear = 0; ear < TOWNS; ear++) {
                winners[ear] = winnerIn(valley, ear);
            }
        }

        private void ringIn(Valley valley, int town) {
            int wanted = valley.wantedBells(town);
            int free = valley.rested(town);
            int volume = 0;
            int busy = 0;
            for (int bell = 0; bell < MOST_BELLS; bell++) {
                int slot = slot(town, bell);
                boolean isWanted = ((wanted >> bell) & 1) == 1;
                int weight = valley.weights[slot];
                if (valley.silences[town] > 0) {
                    reasons[slot] = TOWN_SILENT;
                } else if (!isWanted) {
                    reasons[slot] = NOT_WANTED;
                } else if (valley.wears[slot] >= BROKEN) {
                    reasons[slot] = ROPE_BROKEN;
                } else if (ringersFor(weight) > free - busy) {
                    reasons[slot] = RINGERS_TOO_FEW;
                } else {
                    reasons[slot] = RUNG;
                    volume += weight;
                    busy += ringersFor(weight);
                }
            }
            volumes[town] = volume;
            ringersBusy[town] = busy;
        }

        int soundIn(Valley valley, int town, int ear) {
            int miles = Math.abs(valley.milestones[town] - valley.milestones[ear]);
            return Math.max(0, volumes[town] - valley.fade * miles);
        }

        /** None wins if several are heard alike with the most, or none is heard at all. */
        private int winnerIn(Valley valley, int ear) {
            int most = 0;
            int winner = NONE;
            for (int town = 0; town < TOWNS; town++) {
                int sound = soundIn(valley, town, ear);
                if (sound > most) {
                    most = sound;
                    winner = town;
                } else if (sound == most) {
                    winner = NONE;
                }
            }
            return winner;
        }

        int pointsOf(int town) {
            int won = 0;
            for (int ear = 0; ear < TOWNS; ear++) {
                if (winners[ear] == town) {
                    won++;
                }
            }
            return won;
        }
    }

    /** The latest states; the oldest one gives its place to the next when all are taken. */
    private static final class History {
        private final Valley[] states = new Valley[MOST_STATES];
        private int oldest = 0;
        int size = 0;

        History() {
            for (int place = 0; place < MOST_STATES; place++) {
                states[place] = new Valley();
            }
        }

        void record(Valley valley) {
            Valley place = states[placeOf(size)];
            if (place != null) {
                place.copyFrom(valley);
            }
            if (size < MOST_STATES) {
                size++;
            } else {
                oldest = placeOf(1);
            }
        }

        /** Restores the latest state, and removes it; without one nothing changes. */
        void takeBack(Valley valley) {
            if (size == 0) {
                return;
            }
            size--;
            Valley place = states[placeOf(size)];
            if (place != null) {
                valley.copyFrom(place);
            }
        }

        private int placeOf(int age) {
            return (oldest + age) % MOST_STATES;
        }
    }

    /** The text, and how a script is read from it. */
    private static final class Script {
        private static final int FAULTY = -1;
        private static final int LETTER_DUE = 0;
        private static final int PLAN_TOWN_DUE = 1;
        private static final int SPLICE_TOWN_DUE = 2;
        private static final int SPLICE_BELL_DUE = 3;
        private static final int TURNS_DUE = 4;
        // From here on an order may end; this plus k: the bells from k on may follow as well.
        private static final int MAY_END = 5;
        private static final int MUST_END = MAY_END + MOST_BELLS;

        private final char[] signs = new char[LONGEST_TEXT];
        int length = 0;

        void add(char sign) {
            if (length >= 0 && length < LONGEST_TEXT) {
                signs[length] = sign;
                length++;
            }
        }

        /** The sign there; 0, which no text holds, if there is none. */
        int signAt(int index) {
            return index >= 0 && index < length && index < LONGEST_TEXT ? signs[index] : 0;
        }

        int digitAt(int index) {
            return signAt(index) - '0';
        }

        /** The three letters stand nowhere else in a script. */
        boolean beginsOrder(int index) {
            return afterLetter(signAt(index)) != FAULTY;
        }

        /** The bit mask of the bells from there to the end of the order. */
        int bellsFrom(int start) {
            int bells = 0;
            for (int index = start; index < length && signAt(index) != ';'; index++) {
                bells |= 1 << digitAt(index);
            }
            return bells;
        }

        int firstFault() {
            int due = LETTER_DUE;
            for (int index = 0; index < length; index++) {
                due = after(due, signAt(index));
                if (due == FAULTY) {
                    return index;
                }
            }
            return due >= MAY_END ? NONE : length;
        }

        private static int after(int due, int sign) {
            switch (due) {
                case LETTER_DUE:
                    return afterLetter(sign);
                case PLAN_TOWN_DUE:
                    return isDigit(sign, 0, TOWNS - 1) ? MAY_END : FAULTY;
                case SPLICE_TOWN_DUE:
                    return isDigit(sign, 0, TOWNS - 1) ? SPLICE_BELL_DUE : FAULTY;
                case SPLICE_BELL_DUE:
                    return isDigit(sign, 0, MOST_BELLS - 1) ? MUST_END : FAULTY;
                case TURNS_DUE:
                    return isDigit(sign, 1, 9) ? MUST_END : FAULTY;
                default:
                    return afterBells(due - MAY_END, sign);
            }
        }

        private static int afterLetter(int sign) {
            switch (sign) {
                case 'p':
                    return PLAN_TOWN_DUE;
                case 's':
                    return SPLICE_TOWN_DUE;
                case 't':
                    return TURNS_DUE;
                default:
                    return FAULTY;
            }
        }

        private static int afterBells(int leastBell, int sign) {
            if (sign == ';') {
                return LETTER_DUE;
            }
            if (isDigit(sign, leastBell, MOST_BELLS - 1)) {
                return MAY_END + (sign - '0') + 1;
            }
            return FAULTY;
        }

        private static boolean isDigit(int sign, int least, int greatest) {
            return sign >= '0' + least && sign <= '0' + greatest;
        }
    }
}
