import java.util.ArrayDeque;
import java.util.ArrayList;
import java.util.List;
import java.util.Random;
import java.util.regex.Matcher;
import java.util.regex.Pattern;

/**
 * Runs of 512 calls with arguments drawn from fixed seeds, each answer held against a second,
 * plain model of the document that shares nothing with the class.
 */
public final class ModelTest {
    private static final int RUNS = 600;
    private static final int CALLS = 512;

    private static final int NO_SUCH = -1;
    private static final int BAD_VALUE = -2;
    private static final int TOO_MANY = -3;
    private static final int NOT_POSSIBLE = -4;
    private static final int NONE = -5;

    private static final class Bell {
        int weight;
        int wear;
        int rung;
        boolean planned;

        Bell copy() {
            Bell copy = new Bell();
            copy.weight = weight;
            copy.wear = wear;
            copy.rung = rung;
            copy.planned = planned;
            return copy;
        }

        int takes() {
            return weight / 2 + weight % 2;
        }
    }

    private static final class Town {
        int milestone;
        int ringers = 8;
        int tired;
        int feast;
        int silence;
        int points;
        int loudest;
        List<Bell> bells = new ArrayList<>();

        Town copy() {
            Town copy = new Town();
            copy.milestone = milestone;
            copy.ringers = ringers;
            copy.tired = tired;
            copy.feast = feast;
            copy.silence = silence;
            copy.points = points;
            copy.loudest = loudest;
            for (Bell bell : bells) {
                copy.bells.add(bell.copy());
            }
            return copy;
        }

        int mask() {
            int mask = 0;
            for (int i = 0; i < bells.size(); i++) {
                mask += bells.get(i).planned ? (int) Math.pow(2, i) : 0;
            }
            return mask;
        }

        void planAs(int mask) {
            for (int i = 0; i < bells.size(); i++) {
                bells.get(i).planned = mask / (int) Math.pow(2, i) % 2 == 1;
            }
        }
    }

    private static final class World {
        List<Town> towns = new ArrayList<>();
        int[] settings = {1, 1};
        int turn;
        int quiet;
        int latest = NONE;

        World copy() {
            World copy = new World();
            for (Town town : towns) {
                copy.towns.add(town.copy());
            }
            copy.settings = settings.clone();
            copy.turn = turn;
            copy.quiet = quiet;
            copy.latest = latest;
            return copy;
        }

        /** Why the bell is not rung in the next turn, 0 if it is. */
        int reason(Town town, Bell asked) {
            int free = town.ringers - town.tired;
            for (Bell bell : town.bells) {
                int reason = 0;
                if (town.silence > 0) {
                    reason = 1;
                } else if (turn % 7 != town.feast && !bell.planned) {
                    reason = 2;
                } else if (bell.wear == 6) {
                    reason = 3;
                } else if (bell.takes() > free) {
                    reason = 4;
                } else {
                    free -= bell.takes();
                }
                if (bell == asked) {
                    return reason;
                }
            }
            throw new IllegalStateException();
        }

        int loudness(Town town) {
            return town.bells.stream().filter(b -> reason(town, b) == 0).mapToInt(b -> b.weight)
                .sum();
        }

        int heard(Town town, Town ear) {
            int far = Math.max(town.milestone, ear.milestone)
                - Math.min(town.milestone, ear.milestone);
            int left = loudness(town) - settings[0] * far;
            return left < 0 ? 0 : left;
        }

        int winner(Town ear) {
            List<Integer> sounds = towns.stream().map(t -> heard(t, ear)).toList();
            int most = sounds.stream().max(Integer::compare).get();
            boolean alone = sounds.indexOf(most) == sounds.lastIndexOf(most);
            return most > 0 && alone ? sounds.indexOf(most) : NONE;
        }

        int pointsNext(int town) {
            return (int) towns.stream().filter(ear -> winner(ear) == town).count();
        }

        void turn() {
            List<Bell> rung = new ArrayList<>();
            int[] rang = new int[6];
            int[] loud = new int[6];
            int[] gained = new int[6];
            for (int t = 0; t < 6; t++) {
                loud[t] = loudness(towns.get(t));
                gained[t] = pointsNext(t);
                for (Bell bell : towns.get(t).bells) {
                    if (reason(towns.get(t), bell) == 0) {
                        rung.add(bell);
                        rang[t] += bell.takes();
                    }
                }
            }
            latest = NONE;
            for (int t = 5; t >= 0; t--) {
                if (loud[t] > 0 && (latest == NONE || loud[t] >= loud[latest])) {
                    latest = t;
                }
            }
            for (Bell bell : rung) {
                bell.wear++;
                bell.rung++;
            }
            for (int t = 0; t < 6; t++) {
                Town town = towns.get(t);
                town.points += gained[t];
                town.tired = rang[t] / 2;
                town.silence = Math.max(0, town.silence - 1);
            }
            if (latest == NONE) {
                quiet++;
            } else {
                towns.get(latest).silence = settings[1];
                towns.get(latest).loudest++;
            }
            turn++;
        }
    }

    private static final class Model {
        static final String ORDER = "(p[0-5]0?1?2?3?4?|s[0-5][0-4]|t[1-9])";
        static final Pattern SCRIPT = Pattern.compile(ORDER + "(;" + ORDER + ")*");

        World world = new World();
        World saved;
        ArrayDeque<World> past = new ArrayDeque<>();
        String text = "";

        Model() {
            for (int t = 0; t < 6; t++) {
                Town town = new Town();
                town.milestone = 4 * t;
                town.feast = t;
                world.towns.add(town);
            }
        }

        void record() {
            past.addLast(world.copy());
            if (past.size() > 5) {
                past.removeFirst();
            }
        }

        boolean noTown(int town) {
            return town < 0 || town > 5;
        }

        boolean noBell(int town, int bell) {
            return noTown(town) || bell < 0 || bell >= world.towns.get(town).bells.size();
        }

        boolean badPlan(int town, int bells) {
            return bells < 0 || bells > 31
                || bells >= Math.pow(2, world.towns.get(town).bells.size());
        }

        int hang(int town, int weight) {
            if (noTown(town)) {
                return NO_SUCH;
            }
            if (weight < 1 || weight > 9) {
                return BAD_VALUE;
            }
            List<Bell> bells = world.towns.get(town).bells;
            if (bells.size() == 5) {
                return TOO_MANY;
            }
            record();
            Bell bell = new Bell();
            bell.weight = weight;
            bells.add(bell);
            return bells.size() - 1;
        }

        int melt(int town, int bell) {
            if (noBell(town, bell)) {
                return NO_SUCH;
            }
            record();
            return world.towns.get(town).bells.remove(bell).weight;
        }

        int settle(int town, int milestone, int ringers) {
            if (noTown(town)) {
                return NO_SUCH;
            }
            if (milestone < 0 || milestone > 40 || ringers < 1 || ringers > 20) {
                return BAD_VALUE;
            }
            for (int t = 0; t < 6; t++) {
                if (t != town && world.towns.get(t).milestone == milestone) {
                    return NOT_POSSIBLE;
                }
            }
            record();
            Town there = world.towns.get(town);
            there.milestone = milestone;
            there.ringers = ringers;
            there.tired = there.tired > ringers ? ringers : there.tired;
            return there.tired;
        }

        int plan(int town, int bells, boolean alone) {
            if (noTown(town)) {
                return NO_SUCH;
            }
            if (badPlan(town, bells)) {
                return BAD_VALUE;
            }
            if (alone) {
                record();
            }
            int before = world.towns.get(town).mask();
            world.towns.get(town).planAs(bells);
            return before;
        }

        int splice(int town, int bell, boolean alone) {
            if (noBell(town, bell)) {
                return NO_SUCH;
            }
            Town there = world.towns.get(town);
            int wear = there.bells.get(bell).wear;
            if (wear == 0 || there.ringers - there.tired < 2) {
                return NOT_POSSIBLE;
            }
            if (alone) {
                record();
                there = world.towns.get(town);
            }
            there.bells.get(bell).wear = 0;
            there.tired += 2;
            return wear;
        }

        int feast(int town, int day) {
            if (noTown(town)) {
                return NO_SUCH;
            }
            if (day < 0 || day > 6) {
                return BAD_VALUE;
            }
            record();
            int before = world.towns.get(town).feast;
            world.towns.get(town).feast = day;
            return before;
        }

        int set(int setting, int value) {
            if (setting != 0 && setting != 1) {
                return NO_SUCH;
            }
            if (setting == 0 ? value < 0 || value > 9 : value < 1 || value > 3) {
                return BAD_VALUE;
            }
            record();
            int before = world.settings[setting];
            world.settings[setting] = value;
            return before;
        }

        int turns(int many) {
            if (many < 1 || many > 50) {
                return BAD_VALUE;
            }
            record();
            for (int i = 0; i < many; i++) {
                world.turn();
            }
            return world.latest;
        }

        int append(int character) {
            if (character < 32 || character > 126) {
                return BAD_VALUE;
            }
            if (text.length() == 60) {
                return TOO_MANY;
            }
            text += (char) character;
            return text.length();
        }

        int clearText() {
            int before = text.length();
            text = "";
            return before;
        }

        int fault() {
            for (int end = 1; end <= text.length(); end++) {
                Matcher matcher = SCRIPT.matcher(text.substring(0, end));
                if (!matcher.matches() && !matcher.hitEnd()) {
                    return end - 1;
                }
            }
            return SCRIPT.matcher(text).matches() ? NONE : text.length();
        }

        int run() {
            if (fault() != NONE) {
                return -100 - fault();
            }
            record();
            int done = 0;
            for (String order : text.split(";")) {
                int first = order.charAt(1) - '0';
                if (order.startsWith("t")) {
                    for (int i = 0; i < first; i++) {
                        world.turn();
                    }
                } else if (order.startsWith("s")) {
                    if (splice(first, order.charAt(2) - '0', false) < 0) {
                        return done;
                    }
                } else {
                    int bells = order.substring(2).chars().map(c -> 1 << (c - '0')).sum();
                    if (plan(first, bells, false) < 0) {
                        return done;
                    }
                }
                done++;
            }
            return done;
        }

        int undo() {
            if (past.isEmpty()) {
                return NONE;
            }
            world = past.removeLast();
            return past.size();
        }

        int save() {
            saved = world.copy();
            return world.turn;
        }

        int restore() {
            if (saved == null) {
                return NOT_POSSIBLE;
            }
            record();
            world = saved.copy();
            return world.turn;
        }

        int town(int town, int what) {
            if (noTown(town)) {
                return NO_SUCH;
            }
            if (what < 0 || what > 8) {
                return BAD_VALUE;
            }
            Town t = world.towns.get(town);
            return new int[] {t.milestone, t.ringers, t.tired, t.bells.size(), t.mask(), t.feast,
                t.silence, t.points, t.loudest}[what];
        }

        int bell(int town, int bell, int what) {
            if (noBell(town, bell)) {
                return NO_SUCH;
            }
            if (what < 0 || what > 4) {
                return BAD_VALUE;
            }
            Bell b = world.towns.get(town).bells.get(bell);
            int reason = world.reason(world.towns.get(town), b);
            return new int[] {b.weight, b.wear, b.takes(), b.rung, reason}[what];
        }

        int count(int what) {
            if (what < 0 || what > 10) {
                return BAD_VALUE;
            }
            List<Bell> all = new ArrayList<>();
            int points = 0;
            int silent = 0;
            for (Town town : world.towns) {
                all.addAll(town.bells);
                points += town.points;
                silent += town.silence > 0 ? 1 : 0;
            }
            int broken = (int) all.stream().filter(b -> b.wear == 6).count();
            return new int[] {world.turn, all.size(), broken, silent, points, world.quiet,
                world.latest, world.settings[0], world.settings[1], past.size(),
                text.length()}[what];
        }

        int loudness(int town) {
            return noTown(town) ? NO_SUCH : world.loudness(world.towns.get(town));
        }

        int heard(int town, int ear) {
            if (noTown(town) || noTown(ear)) {
                return NO_SUCH;
            }
            return world.heard(world.towns.get(town), world.towns.get(ear));
        }

        int winner(int ear) {
            return noTown(ear) ? NO_SUCH : world.winner(world.towns.get(ear));
        }

        int ifPlanned(int town, int bells) {
            if (noTown(town)) {
                return NO_SUCH;
            }
            if (badPlan(town, bells)) {
                return BAD_VALUE;
            }
            World other = world.copy();
            other.towns.get(town).planAs(bells);
            return other.pointsNext(town);
        }

        int bestPlan(int town) {
            if (noTown(town)) {
                return NO_SUCH;
            }
            int best = -1;
            long bestRank = Long.MIN_VALUE;
            for (int bells = 0; !badPlan(town, bells); bells++) {
                World other = world.copy();
                other.towns.get(town).planAs(bells);
                long rank = other.pointsNext(town) * 1000L
                    - other.loudness(other.towns.get(town));
                if (rank > bestRank) {
                    bestRank = rank;
                    best = bells;
                }
            }
            return best;
        }

        int pointsIn(int town, int many) {
            if (noTown(town)) {
                return NO_SUCH;
            }
            if (many < 1 || many > 50) {
                return BAD_VALUE;
            }
            World other = world.copy();
            for (int i = 0; i < many; i++) {
                other.turn();
            }
            return other.towns.get(town).points;
        }

        double share(int town) {
            int all = count(4);
            return noTown(town) || all == 0 ? 0.0 : (double) town(town, 7) / all;
        }
    }

    private static final int[] ODD = {-1, 6, 7, 32, -2147483648, 2147483647, 41, 51, 100, -5};

    private final BellTowns real = new BellTowns();
    private final Model model = new Model();
    private final Random random;
    private final Due due;
    private String log = "";

    private ModelTest(int seed, Due due) {
        random = new Random(seed);
        this.due = due;
    }

    /** Mostly from low to high, now and then far out of it. */
    private int draw(int low, int high) {
        if (random.nextInt(40) == 0) {
            return ODD[random.nextInt(ODD.length)];
        }
        return low + random.nextInt(high - low + 1);
    }

    private int drawTurns() {
        return random.nextInt(4) == 0 ? draw(0, 51) : draw(1, 4);
    }

    private int drawCharacter() {
        if (random.nextInt(30) == 0) {
            return draw(30, 128);
        }
        String due = "p0123;s01;t4;p5;012345;;";
        return due.charAt(random.nextInt(due.length()));
    }

    private void same(String call, double got, double want) {
        log = call;
        due.is(call, got, want);
    }

    /** Appends a piece that is written as an order, so that complete scripts come about. */
    private int writeOrder() {
        StringBuilder order = new StringBuilder(model.text.isEmpty() ? "" : ";");
        int town = random.nextInt(6);
        switch (random.nextInt(3)) {
            case 0:
                order.append('p').append(town);
                for (int bell = 0; bell < 5; bell++) {
                    order.append(random.nextInt(3) == 0 ? String.valueOf(bell) : "");
                }
                break;
            case 1:
                order.append('s').append(town).append(random.nextInt(3));
                break;
            default:
                order.append('t').append(1 + random.nextInt(9));
        }
        for (char character : order.toString().toCharArray()) {
            same("append(" + (int) character + ")", real.append(character),
                model.append(character));
        }
        return order.length();
    }

    private int action() {
        int town = draw(0, 5);
        int bell = draw(0, 5);
        switch (random.nextInt(14)) {
            case 0: case 1: {
                int weight = draw(0, 10);
                same("hang(" + town + ", " + weight + ")", real.hang(town, weight),
                    model.hang(town, weight));
                return 1;
            }
            case 2:
                same("melt(" + town + ", " + bell + ")", real.melt(town, bell),
                    model.melt(town, bell));
                return 1;
            case 3: {
                int mile = draw(-1, 41);
                int ringers = random.nextBoolean() ? draw(0, 21) : draw(1, 6);
                same("settle(" + town + ", " + mile + ", " + ringers + ")",
                    real.settle(town, mile, ringers), model.settle(town, mile, ringers));
                return 1;
            }
            case 4: case 5: {
                int bells = random.nextBoolean() ? draw(0, 32) : draw(0, 3);
                same("plan(" + town + ", " + bells + ")", real.plan(town, bells),
                    model.plan(town, bells, true));
                return 1;
            }
            case 6: case 7:
                same("splice(" + town + ", " + bell + ")", real.splice(town, bell),
                    model.splice(town, bell, true));
                return 1;
            case 8: {
                int day = draw(-1, 7);
                same("feast(" + town + ", " + day + ")", real.feast(town, day),
                    model.feast(town, day));
                return 1;
            }
            case 9: {
                int setting = draw(-1, 2);
                int value = draw(-1, 10);
                same("set(" + setting + ", " + value + ")", real.set(setting, value),
                    model.set(setting, value));
                return 1;
            }
            case 10: case 11: {
                int many = drawTurns();
                same("turns(" + many + ")", real.turns(many), model.turns(many));
                return 1;
            }
            default:
                return rareAction();
        }
    }

    private int rareAction() {
        switch (random.nextInt(6)) {
            case 0:
                same("save()", real.save(), model.save());
                return 1;
            case 1:
                same("restore()", real.restore(), model.restore());
                return 1;
            case 2: case 3:
                same("undo()", real.undo(), model.undo());
                return 1;
            default:
                same("run()", real.run(), model.run());
                return 1;
        }
    }

    private int textCall() {
        switch (random.nextInt(8)) {
            case 0:
                same("clearText()", real.clearText(), model.clearText());
                return 1;
            case 1: case 2: {
                int character = drawCharacter();
                same("append(" + character + ")", real.append(character),
                    model.append(character));
                return 1;
            }
            case 3: case 4:
                same("fault()", real.fault(), model.fault());
                return 1;
            case 5:
                same("run()", real.run(), model.run());
                return 1;
            default:
                return writeOrder();
        }
    }

    private int query() {
        int town = draw(0, 5);
        int bell = draw(0, 4);
        switch (random.nextInt(10)) {
            case 0: {
                int what = draw(-1, 9);
                same("town(" + town + ", " + what + ")", real.town(town, what),
                    model.town(town, what));
                return 1;
            }
            case 1: {
                int what = draw(-1, 5);
                same("bell(" + town + ", " + bell + ", " + what + ")",
                    real.bell(town, bell, what), model.bell(town, bell, what));
                return 1;
            }
            case 2: {
                int what = draw(-1, 11);
                same("count(" + what + ")", real.count(what), model.count(what));
                return 1;
            }
            case 3:
                same("loudness(" + town + ")", real.loudness(town), model.loudness(town));
                return 1;
            case 4: {
                int ear = draw(0, 5);
                same("heard(" + town + ", " + ear + ")", real.heard(town, ear),
                    model.heard(town, ear));
                return 1;
            }
            case 5:
                same("winner(" + town + ")", real.winner(town), model.winner(town));
                return 1;
            case 6: {
                int bells = random.nextBoolean() ? draw(0, 32) : draw(0, 3);
                same("ifPlanned(" + town + ", " + bells + ")", real.ifPlanned(town, bells),
                    model.ifPlanned(town, bells));
                return 1;
            }
            case 7:
                same("bestPlan(" + town + ")", real.bestPlan(town), model.bestPlan(town));
                return 1;
            case 8: {
                int many = drawTurns();
                same("pointsIn(" + town + ", " + many + ")", real.pointsIn(town, many),
                    model.pointsIn(town, many));
                return 1;
            }
            default:
                same("share(" + town + ")", real.share(town), model.share(town));
                return 1;
        }
    }

    private void runAll(int startBells) {
        int calls = 0;
        for (; calls < startBells; calls++) {
            int town = random.nextInt(6);
            int weight = 1 + random.nextInt(9);
            same("hang", real.hang(town, weight), model.hang(town, weight));
        }
        while (calls < CALLS - 16) {
            int kind = random.nextInt(10);
            calls += kind < 4 ? action() : kind < 6 ? textCall() : query();
        }
    }

    public static void main(String[] args) {
        Due due = new Due();
        for (int seed = 0; seed < RUNS && due.wrong() < 20; seed++) {
            due.begin("seed " + seed);
            ModelTest test = new ModelTest(seed, due);
            try {
                test.runAll(seed % 3 * 10);
            } catch (RuntimeException thrown) {
                due.isTrue("an answer without " + thrown + " behind " + test.log, false);
            }
        }
        due.end();
    }
}
