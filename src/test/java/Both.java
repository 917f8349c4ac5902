/** The class and the plain model side by side: each call goes to both, and the answers are compared. */
final class Both {
    /** What later calls of one object answer is free. */
    private static final int MOST_CALLS = 512;

    private final Checks checks;
    private final String name;
    private final OperaGlasses house = new OperaGlasses();
    private final PlainModel model = new PlainModel();
    private int calls;

    Both(Checks checks, String name) {
        this.checks = checks;
        this.name = name;
    }

    /** How many calls the object still has to answer. */
    int left() {
        return MOST_CALLS - calls;
    }

    /** What the model knows can be asked without a call of the object. */
    PlainModel model() {
        return model;
    }

    private int due(int got, int want, String method, Object... arguments) {
        calls++;
        if (got != want || calls > MOST_CALLS) {
            StringBuilder call = new StringBuilder(name).append(", call ").append(calls).append(": ").append(method);
            for (Object argument : arguments) {
                call.append(' ').append(argument);
            }
            checks.due(call.toString(), got, want);
            checks.due(call.append(" is among the first calls").toString(), calls > MOST_CALLS ? 0 : 1, 1);
        }
        return want;
    }

    int open(int boxes) {
        return due(house.open(boxes), model.open(boxes), "open", boxes);
    }

    int look(int person, int box) {
        return due(house.look(person, box), model.look(person, box), "look", person, box);
    }

    int tell(int teller, int kind, int a, int b) {
        return due(house.tell(teller, kind, a, b), model.tell(teller, kind, a, b), "tell", teller, kind, a, b);
    }

    int tellAll() {
        return due(house.tellAll(), model.tellAll(), "tellAll");
    }

    int prove(int rumour, boolean isSo) {
        return due(house.prove(rumour, isSo), model.prove(rumour, isSo), "prove", rumour, isSo);
    }

    int reveal() {
        return due(house.reveal(), model.reveal(), "reveal");
    }

    int doubt(int rumour) {
        return due(house.doubt(rumour), model.doubt(rumour), "doubt", rumour);
    }

    int guess(int person, int other, int box) {
        return due(house.guess(person, other, box), model.guess(person, other, box), "guess", person, other, box);
    }

    int endAct() {
        return due(house.endAct(), model.endAct(), "endAct");
    }

    int person(int person, int what) {
        return due(house.person(person, what), model.person(person, what), "person", person, what);
    }

    int rumour(int rumour, int what) {
        return due(house.rumour(rumour, what), model.rumour(rumour, what), "rumour", rumour, what);
    }

    int count(int what) {
        return due(house.count(what), model.count(what), "count", what);
    }

    int possible(int person, int box) {
        return due(house.possible(person, box), model.possible(person, box), "possible", person, box);
    }

    int certain(int person) {
        return due(house.certain(person), model.certain(person), "certain", person);
    }

    int world(int world, int person) {
        return due(house.world(world, person), model.world(world, person), "world", world, person);
    }

    int ifProved(int kind, int a, int b) {
        return due(house.ifProved(kind, a, b), model.ifProved(kind, a, b), "ifProved", kind, a, b);
    }

    int sharpest(int what) {
        return due(house.sharpest(what), model.sharpest(what), "sharpest", what);
    }

    int blame(int what) {
        return due(house.blame(what), model.blame(what), "blame", what);
    }

    int mostWatched(int what) {
        return due(house.mostWatched(what), model.mostWatched(what), "mostWatched", what);
    }

    int put(long characters) {
        return due(house.put(characters), model.put(characters), "put", characters);
    }

    /** Puts a text of any length on the pad, in as many calls as that takes. */
    void type(String text) {
        for (int i = 0; i < text.length(); i += 8) {
            put(Checks.packed(text.substring(i, Math.min(i + 8, text.length()))));
        }
    }

    int wipe() {
        return due(house.wipe(), model.wipe(), "wipe");
    }

    int fault() {
        return due(house.fault(), model.fault(), "fault");
    }

    int undo() {
        return due(house.undo(), model.undo(), "undo");
    }

    int save(int slot) {
        return due(house.save(slot), model.save(slot), "save", slot);
    }

    int restore(int slot) {
        return due(house.restore(slot), model.restore(slot), "restore", slot);
    }
}
