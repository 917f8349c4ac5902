/** Arguments just below, at and just above their bounds, all with all, in several states, held against the plain model. */
public final class ArgumentsTest {
    private static final int MIN = Integer.MIN_VALUE, MAX = Integer.MAX_VALUE;
    private static final int[] PLACES = {MIN, MIN + 1, -1, 0, 1, 2, 3, 4, 5, 6, 7, MAX};
    private static final int[] KINDS = {MIN, -1, 0, 1, 2, 3, 4, 5, 6, MAX};
    private static final int[] RUMOURS = {MIN, -1, 0, 1, 2, 3, 18, 19, 20, 21, MAX};
    private static final int[] WHATS = {MIN, -6, -1, 0, 1, 2, 3, 4, 5, 6, 7, 8, 9, 10, 11, 12, 256, 65536, MAX};
    private static final int[] WORLDS = {MIN, -1, 0, 1, 7, 8, 9, 17, 26, 80, 81, 82, 15624, 15625, 15626, MAX};
    private static final int[] NO_OR_YES = {0, 1};
    /** The state of a pair is looked at when it has no more than so many calls left. */
    private static final int CALLS_FOR_A_LOOK = 320;

    private static final Checks checks = new Checks();

    private interface Recipe {
        void cook(Both x);
    }

    private interface Call {
        int on(Both x, int[] arguments);
    }

    private enum State {
        BARE(x -> { }),
        THREE(x -> {
            x.open(3);
            x.tell(0, OperaGlasses.WATCHED, 0, 2);
            x.tell(1, OperaGlasses.LOOKS, 1, 2);
            x.prove(0, true);
        }),
        LIVELY(x -> {
            x.tell(0, OperaGlasses.LOOKS, 0, 1);
            x.endAct();
            x.tell(0, OperaGlasses.LOOKS, 0, 1);
            x.tell(1, OperaGlasses.MIRROR, 2, 1);
            x.tell(2, OperaGlasses.SAME, 2, 1);
            x.prove(1, false);
            x.prove(0, true);
            x.guess(3, 1, 2);
            x.save(1);
            x.look(2, 0);
        }),
        CONTRADICTION(x -> {
            x.tell(0, OperaGlasses.LOOKS, 0, 1);
            x.tell(0, OperaGlasses.LOOKS, 0, 2);
            x.tell(0, OperaGlasses.LOOKS, 3, 2);
            x.prove(0, true);
            x.prove(1, true);
            x.save(0);
        }),
        FULL(x -> {
            for (int i = 0; i < 20; i++) {
                x.tell(i % 4, OperaGlasses.BEYOND, i % 4, i / 5);
            }
            x.prove(19, false);
            x.prove(0, false);
        }),
        SIX(x -> {
            x.open(6);
            x.tell(5, OperaGlasses.LOOKS, 5, 4);
            x.tell(0, OperaGlasses.WATCHED, 5, 5);
            x.prove(0, true);
            x.guess(5, 0, 1);
        });

        private final Recipe recipe;

        State(Recipe recipe) {
            this.recipe = recipe;
        }

        Both fresh() {
            Both x = new Both(checks, toString());
            recipe.cook(x);
            return x;
        }
    }

    public static void main(String[] args) {
        for (State state : State.values()) {
            changes(state);
            answers(state);
            saving(state);
        }
        checks.end();
    }

    private static void changes(State state) {
        sweep(state, (x, n) -> x.open(n[0]), PLACES);
        sweep(state, (x, n) -> x.look(n[0], n[1]), PLACES, PLACES);
        sweep(state, (x, n) -> x.tell(n[0], n[1], n[2], n[3]), PLACES, KINDS, PLACES, PLACES);
        sweep(state, (x, n) -> x.prove(n[0], n[1] == 1), RUMOURS, NO_OR_YES);
        sweep(state, (x, n) -> x.doubt(n[0]), RUMOURS);
        sweep(state, (x, n) -> x.guess(n[0], n[1], n[2]), PLACES, PLACES, PLACES);
        sweep(state, (x, n) -> x.reveal());
        sweep(state, (x, n) -> x.endAct());
        sweep(state, (x, n) -> x.restore(n[0]), WHATS);
    }

    private static void answers(State state) {
        ask(state, (x, n) -> x.person(n[0], n[1]), PLACES, WHATS);
        ask(state, (x, n) -> x.rumour(n[0], n[1]), RUMOURS, WHATS);
        ask(state, (x, n) -> x.count(n[0]), WHATS);
        ask(state, (x, n) -> x.possible(n[0], n[1]), PLACES, PLACES);
        ask(state, (x, n) -> x.certain(n[0]), PLACES);
        ask(state, (x, n) -> x.world(n[0], n[1]), WORLDS, PLACES);
        ask(state, (x, n) -> x.ifProved(n[0], n[1], n[2]), KINDS, PLACES, PLACES);
        ask(state, (x, n) -> x.sharpest(n[0]), WHATS);
        ask(state, (x, n) -> x.blame(n[0]), WHATS);
        ask(state, (x, n) -> x.mostWatched(n[0]), WHATS);
    }

    private static void saving(State state) {
        ask(state, (x, n) -> x.save(n[0]), WHATS);
    }

    /** What is accepted is undone, so that the next arguments meet the same house. */
    private static void sweep(State state, Call change, int[]... values) {
        ask(state, (x, n) -> {
            int answer = change.on(x, n);
            return answer < 0 ? answer : x.undo();
        }, values);
    }

    private static void ask(State state, Call call, int[]... values) {
        int tuples = 1;
        for (int[] row : values) {
            tuples *= row.length;
        }
        int looks = 0;
        Both x = state.fresh();
        for (int i = 0; i < tuples; i++) {
            call.on(x, tuple(i, values));
            if (x.left() <= CALLS_FOR_A_LOOK || i == tuples - 1) {
                look(x, looks++);
                x = state.fresh();
            }
        }
    }

    private static int[] tuple(int index, int[]... values) {
        int[] tuple = new int[values.length];
        int rest = index;
        for (int i = values.length - 1; i >= 0; i--) {
            tuple[i] = values[i][rest % values[i].length];
            rest /= values[i].length;
        }
        return tuple;
    }

    /** Not all can be looked at in one object's calls, so that they take turns: the house, its past, its slots. */
    private static void look(Both x, int turn) {
        switch (turn % 3) {
            case 0 -> house(x);
            case 1 -> {
                for (int i = 0; i < 7; i++) {
                    x.undo();
                    shortly(x);
                }
            }
            default -> {
                for (int slot = 0; slot < 2; slot++) {
                    x.restore(slot);
                    shortly(x);
                }
            }
        }
    }

    private static void house(Both x) {
        for (int what = 0; what <= 10; what++) {
            x.count(what);
        }
        for (int p = 0; p < x.model().count(0); p++) {
            for (int what = 0; what < 6; what++) {
                x.person(p, what);
            }
        }
        for (int r = 0; r < x.model().count(1); r++) {
            for (int what = 0; what < 7; what++) {
                x.rumour(r, what);
            }
        }
    }

    private static void shortly(Both x) {
        for (int what = 0; what <= 10; what++) {
            x.count(what);
        }
        for (int p = 0; p < x.model().count(0); p++) {
            for (int what = 0; what < 3; what++) {
                x.person(p, what);
            }
        }
    }
}
