import java.util.function.Supplier;

/** What the tests of single sentences share. Each object in them gets fewer than 512 calls. */
abstract class Boundaries {
    static final int NO_SUCH = -1;
    static final int BAD_VALUE = -2;
    static final int TOO_MANY = -3;
    static final int NOT_POSSIBLE = -4;
    static final int NONE = -5;
    static final int FADE = 0;
    static final int REST = 1;
    static final int LEAST = Integer.MIN_VALUE;
    static final int GREATEST = Integer.MAX_VALUE;
    static final int[] NO_TOWN = {LEAST, -1, 6, 256, 65536, GREATEST};

    /** What the object is asked behind a call, to tell it from a twin without that call. */
    private static final Call[] PROBES = {
        x -> 0, x -> undo(x, 1), x -> undo(x, 2), x -> undo(x, 3), x -> undo(x, 4),
        x -> undo(x, 5), x -> undo(x, 6), x -> x.restore(), x -> x.run(), x -> x.turns(3),
        x -> x.append(';'), x -> x.hang(1, 9)};

    interface Call {
        int of(BellTowns x);
    }

    interface CallWith {
        int of(BellTowns x, int argument);
    }

    private final Due due;
    private final Sentences sentences;

    Boundaries(Due due, Sentences sentences) {
        this.due = due;
        this.sentences = sentences;
    }

    abstract void all();

    /** Names what follows after a sentence of the document. */
    final void sentence(String section, String words) {
        sentences.quote(section, words);
        due.begin(section + ", \"" + words + "\"");
    }

    final void is(String call, double got, double want) {
        due.is(call, got, want);
    }

    final void isTrue(String what, boolean holds) {
        due.isTrue(what, holds);
    }

    /** The first and the last town are there, those beside them are not. */
    final void towns(String name, Supplier<BellTowns> past, CallWith call, int of0, int of5) {
        is(name + " of 0", call.of(past.get(), 0), of0);
        is(name + " of 5", call.of(past.get(), 5), of5);
        for (int town : NO_TOWN) {
            refused(name + " of " + town, past, x -> call.of(x, town), NO_SUCH);
        }
    }

    /** The values from first to last are taken, those beside them and the far ones are not. */
    final void range(String name, Supplier<BellTowns> past, CallWith call, int first, int last) {
        for (int value = first; value <= last; value++) {
            int got = call.of(past.get(), value);
            isTrue(name + " of " + value + ", which answered " + got, got >= 0 || got == NONE);
        }
        int[] beside = {LEAST, first - 1, last + 1, first + 256, first + 65536, GREATEST};
        for (int value : beside) {
            refused(name + " of " + value, past, x -> call.of(x, value), BAD_VALUE);
        }
    }

    /** The call answers this error code, and changes nothing. */
    final void refused(String name, Supplier<BellTowns> past, Call call, int want) {
        is(name, call.of(past.get()), want);
        changesNothing(name, past, call);
    }

    /** Behind the call the object can't be told from a twin that was not asked. */
    final void changesNothing(String name, Supplier<BellTowns> past, Call call) {
        for (int probe = 0; probe < PROBES.length; probe++) {
            BellTowns asked = past.get();
            BellTowns twin = past.get();
            call.of(asked);
            is(name + ", then the probe " + probe, PROBES[probe].of(asked),
                PROBES[probe].of(twin));
            isTrue(name + ", then the probe " + probe + ": the same view",
                view(asked).equals(view(twin)));
        }
    }

    static int undo(BellTowns x, int times) {
        int left = 0;
        for (int time = 0; time < times; time++) {
            left = x.undo();
        }
        return left;
    }

    /** Writes behind the text that is there; answers the last answer of append. */
    static int write(BellTowns x, String text) {
        int length = 0;
        for (int i = 0; i < text.length(); i++) {
            length = x.append(text.charAt(i));
        }
        return length;
    }

    static int fault(String text) {
        BellTowns x = new BellTowns();
        write(x, text);
        return x.fault();
    }

    /** A town with bells of these weights, all of them planned. */
    static BellTowns ring(BellTowns x, int town, int... weights) {
        for (int weight : weights) {
            x.hang(town, weight);
        }
        x.plan(town, (1 << weights.length) - 1);
        return x;
    }

    /** Changes the ringers alone, so no town may have been moved before. */
    static void ringers(BellTowns x, int town, int ringers) {
        x.settle(town, 4 * town, ringers);
    }

    /** An object with a past: bells, five states, a snapshot, a silence and a script. */
    static BellTowns played() {
        BellTowns x = new BellTowns();
        ring(x, 0, 9, 4);
        ring(x, 2, 8);
        ring(x, 3, 1, 2, 3, 4, 5);
        ring(x, 5, 7, 7);
        x.turns(1);
        x.save();
        x.set(FADE, 2);
        x.feast(1, 4);
        x.turns(2);
        x.settle(4, 17, 9);
        x.plan(5, 2);
        write(x, "p00;t2;s20");
        return x;
    }

    /** All that is seen of the state and of the text. */
    static String view(BellTowns x) {
        StringBuilder view = new StringBuilder("fault ").append(x.fault());
        for (int what = 0; what <= 10; what++) {
            view.append(" count ").append(what).append(' ').append(x.count(what));
        }
        return view.append(towns(x)).toString();
    }

    /** All that is seen of the state. */
    static String state(BellTowns x) {
        StringBuilder view = new StringBuilder();
        for (int what = 0; what <= 8; what++) {
            view.append(" count ").append(what).append(' ').append(x.count(what));
        }
        return view.append(towns(x)).toString();
    }

    private static String towns(BellTowns x) {
        StringBuilder view = new StringBuilder();
        for (int town = 0; town < 6; town++) {
            view.append("\ntown ").append(town).append(':');
            for (int what = 0; what <= 8; what++) {
                view.append(' ').append(x.town(town, what));
            }
            view.append(' ').append(x.winner(town)).append(' ').append(x.share(town));
            for (int bell = 0; bell < x.town(town, 3); bell++) {
                view.append(" bell ").append(bell);
                for (int what = 0; what <= 4; what++) {
                    view.append(' ').append(x.bell(town, bell, what));
                }
            }
        }
        return view.toString();
    }
}
