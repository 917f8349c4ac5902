/** A game of gossip in an opera house; shared/DOC.md says what each call answers. */
public final class OperaGlasses {
    public static final int NO_SUCH = -1, BAD_VALUE = -2, BAD_TEXT = -3, TOO_MANY = -4, NOT_POSSIBLE = -5, NONE = -6;
    public static final int LOOKS = 0, LOOKS_NOT = 1, MIRROR = 2, SAME = 3, WATCHED = 4, BEYOND = 5;

    private static final int LEAST_BOXES = 3, FIRST_BOXES = 4, MOST_BOXES = 6;
    private static final int MOST_RUMOURS = 20, MOST_WATCHERS = 6;
    private static final int OPEN = 0, PROVED = 1, REFUTED = 2;
    private static final int MOST_CHARACTERS = 60, LONGEST_PUT = 8, FIRST_CODE = 33, LAST_CODE = 126;
    private static final int KEPT_STATES = 6;
    /** What is added to a score that is answered, so that no score looks like an error. */
    private static final int SCORE_BASE = 1000;
    /** What stands in a row of boxes for a person who is not there; no box has this number. */
    private static final int NOWHERE = -1;

    private final House house = new House();
    private final History history = new History();
    private final Slot firstSlot = new Slot();
    private final Slot secondSlot = new Slot();
    private final Pad pad = new Pad();
    private final Survey survey = new Survey();
    /** Whether the survey is of the house as it is now. */
    private boolean surveyed;

    public OperaGlasses() {
        house.arrange(FIRST_BOXES);
    }

    // ---- changes

    public int open(int boxes) {
        if (boxes < LEAST_BOXES || boxes > MOST_BOXES) {
            return BAD_VALUE;
        }
        int before = house.boxes;
        beginChange();
        house.arrange(boxes);
        return before;
    }

    public int look(int person, int box) {
        if (!house.hasBox(person) || !house.hasBox(box)) {
            return NO_SUCH;
        }
        if (person == box) {
            return BAD_VALUE;
        }
        int before = at(house.looks, person);
        beginChange();
        setAt(house.looks, person, box);
        return before;
    }

    public int tell(int teller, int kind, int a, int b) {
        if (!house.hasBox(teller)) {
            return NO_SUCH;
        }
        if (!house.suits(kind, a, b)) {
            return BAD_VALUE;
        }
        if (!house.hasRoomFor(1)) {
            return TOO_MANY;
        }
        beginChange();
        house.addRumour(teller, kind, a, b);
        return house.told - 1;
    }

    public int tellAll() {
        if (pad.firstFault() != NONE) {
            return BAD_TEXT;
        }
        if (!allTellersAreThere()) {
            return NO_SUCH;
        }
        if (!allOnPadSuit()) {
            return BAD_VALUE;
        }
        int more = pad.rumours();
        if (!house.hasRoomFor(more)) {
            return TOO_MANY;
        }
        beginChange();
        for (int i = 0; i < more; i++) {
            house.addRumour(pad.tellerOf(i), pad.kindOf(i), pad.aOf(i), pad.bOf(i));
        }
        pad.empty();
        return more;
    }

    public int prove(int rumour, boolean isSo) {
        Rumour proved = house.rumourAt(rumour);
        if (proved == null) {
            return NO_SUCH;
        }
        if (proved.status != OPEN) {
            return NOT_POSSIBLE;
        }
        beginChange();
        proved.decide(isSo);
        return surveyNow().worlds;
    }

    public int reveal() {
        beginChange();
        return house.revealOpen();
    }

    public int doubt(int rumour) {
        Rumour doubted = house.rumourAt(rumour);
        if (doubted == null) {
            return NO_SUCH;
        }
        if (doubted.status == OPEN) {
            return NOT_POSSIBLE;
        }
        beginChange();
        doubted.status = OPEN;
        return surveyNow().worlds;
    }

    public int guess(int person, int other, int box) {
        if (!house.hasBox(person) || !house.hasBox(other) || !house.hasBox(box)) {
            return NO_SUCH;
        }
        if (person == other || other == box) {
            return BAD_VALUE;
        }
        if (at(house.guessed, person) != 0) {
            return NOT_POSSIBLE;
        }
        int points = pointsOfGuess(surveyNow(), other, box);
        beginChange();
        addAt(house.scores, person, points);
        setAt(house.guessed, person, 1);
        return SCORE_BASE + at(house.scores, person);
    }

    public int endAct() {
        beginChange();
        house.finishAct();
        return house.act;
    }

    // ---- what there is; nothing changes

    public int person(int person, int what) {
        if (!house.hasBox(person)) {
            return NO_SUCH;
        }
        switch (what) {
            case 0: return at(house.looks, person);
            case 1: return SCORE_BASE + at(house.scores, person);
            case 2: return at(house.guessed, person);
            case 3: return house.toldBy(person);
            case 4: return house.toldTrulyBy(person);
            case 5: return watchers(house.looks, person);
            default: return BAD_VALUE;
        }
    }

    public int rumour(int rumour, int what) {
        Rumour asked = house.rumourAt(rumour);
        if (asked == null) {
            return NO_SUCH;
        }
        switch (what) {
            case 0: return asked.teller;
            case 1: return asked.kind;
            case 2: return asked.a;
            case 3: return asked.b;
            case 4: return asked.status;
            case 5: return asked.holdsIn(house.looks) ? 1 : 0;
            case 6: return at(surveyNow().holding, rumour);
            default: return BAD_VALUE;
        }
    }

    public int count(int what) {
        switch (what) {
            case 0: return house.boxes;
            case 1: return house.told;
            case 2: return house.openRumours();
            case 3: return surveyNow().worlds;
            case 4: return house.firstBroken(0, house.looks) == NONE ? 1 : 0;
            case 5: return house.act;
            case 6: return surveyNow().certainPersons(house.boxes);
            case 7: return surveyNow().openCertain(house);
            case 8: return surveyNow().openRuledOut(house);
            case 9: return pad.length;
            case 10: return history.kept;
            default: return BAD_VALUE;
        }
    }

    // ---- what follows; nothing changes

    public int possible(int person, int box) {
        if (!house.hasBox(person) || !house.hasBox(box)) {
            return NO_SUCH;
        }
        return surveyNow().lookingAt(person, box);
    }

    public int certain(int person) {
        if (!house.hasBox(person)) {
            return NO_SUCH;
        }
        return surveyNow().certainBox(person);
    }

    public int world(int world, int person) {
        if (!house.hasBox(person)) {
            return NO_SUCH;
        }
        return survey.boxInWorld(house, world, person);
    }

    public int ifProved(int kind, int a, int b) {
        if (!house.suits(kind, a, b)) {
            return BAD_VALUE;
        }
        return survey.worldsWith(house, kind, a, b);
    }

    public int sharpest(int what) {
        if (what != 0 && what != 1) {
            return BAD_VALUE;
        }
        int best = surveyNow().sharpestRumour(house);
        if (best == NONE || what == 0) {
            return best;
        }
        return survey.worseOutcome(best);
    }

    public int blame(int what) {
        if (what != 0 && what != 1) {
            return BAD_VALUE;
        }
        if (surveyNow().worlds > 0) {
            return NONE;
        }
        int worst = survey.mostToBlame(house);
        if (worst == NONE || what == 0) {
            return worst;
        }
        return at(survey.onlyBroken, worst);
    }

    public int mostWatched(int what) {
        if (what != 0 && what != 1) {
            return BAD_VALUE;
        }
        survey.findMostWatched(house);
        if (survey.mostWatchers == 0) {
            return NONE;
        }
        return what == 0 ? survey.mostWatchedPerson : survey.mostWatchers;
    }

    // ---- texts

    public int put(long characters) {
        int more = lengthOfText(characters);
        if (more == 0) {
            return BAD_VALUE;
        }
        if (pad.length + more > MOST_CHARACTERS) {
            return TOO_MANY;
        }
        for (int i = more - 1; i >= 0; i--) {
            pad.append((char) (characters >>> (8 * i) & 255));
        }
        return pad.length;
    }

    public int wipe() {
        int before = pad.length;
        pad.empty();
        return before;
    }

    public int fault() {
        return pad.firstFault();
    }

    // ---- undo, saving

    public int undo() {
        if (history.kept == 0) {
            return NOT_POSSIBLE;
        }
        history.takeBack(house);
        surveyed = false;
        return history.kept;
    }

    public int save(int slot) {
        Slot chosen = slotAt(slot);
        if (chosen == null) {
            return BAD_VALUE;
        }
        chosen.state.copyFrom(house);
        chosen.used = true;
        return house.told;
    }

    public int restore(int slot) {
        Slot chosen = slotAt(slot);
        if (chosen == null) {
            return BAD_VALUE;
        }
        if (!chosen.used) {
            return NOT_POSSIBLE;
        }
        beginChange();
        house.copyFrom(chosen.state);
        return house.told;
    }

    // ---- behind the face

    /** Every change goes through here, so that none is missing in the history, and no survey is kept too long. */
    private void beginChange() {
        history.record(house);
        surveyed = false;
    }

    private Survey surveyNow() {
        if (!surveyed) {
            survey.take(house);
            surveyed = true;
        }
        return survey;
    }

    private Slot slotAt(int slot) {
        switch (slot) {
            case 0: return firstSlot;
            case 1: return secondSlot;
            default: return null;
        }
    }

    private boolean allTellersAreThere() {
        for (int i = 0; i < pad.rumours(); i++) {
            if (!house.hasBox(pad.tellerOf(i))) {
                return false;
            }
        }
        return true;
    }

    private boolean allOnPadSuit() {
        for (int i = 0; i < pad.rumours(); i++) {
            if (!house.suits(pad.kindOf(i), pad.aOf(i), pad.bOf(i))) {
                return false;
            }
        }
        return true;
    }

    private int pointsOfGuess(Survey seen, int other, int box) {
        if (at(house.looks, other) == box) {
            return seen.isCertain(seen.lookingAt(other, box)) ? 3 : 5;
        }
        return seen.isRuledOut(seen.lookingAt(other, box)) ? -4 : -2;
    }

    /** Returns how many characters a number holds, 0 if it is not as put() wants it. */
    private static int lengthOfText(long characters) {
        long rest = characters;
        int length = 0;
        while (length < LONGEST_PUT && (rest & 255) != 0) {
            long code = rest & 255;
            if (code < FIRST_CODE || code > LAST_CODE) {
                return 0;
            }
            rest = rest >>> 8;
            length++;
        }
        return rest == 0 ? length : 0;
    }

    private static int watchers(int[] boxOf, int box) {
        int found = 0;
        for (int i = 0; i < boxOf.length; i++) {
            if (boxOf[i] == box) {
                found++;
            }
        }
        return found;
    }

    // Rows are read and written by these alone where the index is no counter of the row's own loop.

    private static int at(int[] row, int index) {
        return index >= 0 && index < row.length ? row[index] : NOWHERE;
    }

    private static void setAt(int[] row, int index, int value) {
        if (index >= 0 && index < row.length) {
            row[index] = value;
        }
    }

    private static void addAt(int[] row, int index, int more) {
        if (index >= 0 && index < row.length) {
            row[index] += more;
        }
    }

    private static void fillRow(int[] row, int value) {
        for (int i = 0; i < row.length; i++) {
            row[i] = value;
        }
    }

    private static void copyRow(int[] from, int[] to) {
        for (int i = 0; i < from.length && i < to.length; i++) {
            to[i] = from[i];
        }
    }

    /** What one teller says; it can be asked of the truth as of any world. */
    private static final class Rumour {
        private int teller;
        private int kind;
        private int a;
        private int b;
        private int status;

        void become(int newTeller, int newKind, int newA, int newB) {
            teller = newTeller;
            kind = newKind;
            a = newA;
            b = newB;
            status = OPEN;
        }

        void copyFrom(Rumour other) {
            become(other.teller, other.kind, other.a, other.b);
            status = other.status;
        }

        void decide(boolean isSo) {
            status = isSo ? PROVED : REFUTED;
        }

        boolean holdsIn(int[] boxOf) {
            int seenByA = at(boxOf, a);
            switch (kind) {
                case LOOKS: return seenByA == b;
                case LOOKS_NOT: return seenByA != b;
                case MIRROR: return seenByA == b && at(boxOf, b) == a;
                case SAME: return seenByA == at(boxOf, b);
                case WATCHED: return watchers(boxOf, a) == b;
                default: return at(boxOf, seenByA) == b;
            }
        }

        boolean isBrokenIn(int[] boxOf) {
            return holdsIn(boxOf) ? status == REFUTED : status == PROVED;
        }
    }

    /** All that undo() and restore() bring back. */
    private static final class House {
        private int boxes;
        private int act;
        private int told;
        private final int[] looks = new int[MOST_BOXES];
        private final int[] scores = new int[MOST_BOXES];
        private final int[] guessed = new int[MOST_BOXES];
        private final Rumour[] rumours = new Rumour[MOST_RUMOURS];

        House() {
            for (int i = 0; i < rumours.length; i++) {
                rumours[i] = new Rumour();
            }
        }

        void arrange(int newBoxes) {
            boxes = newBoxes;
            act = 0;
            told = 0;
            fillRow(scores, 0);
            fillRow(guessed, 0);
            for (int i = 0; i < looks.length; i++) {
                looks[i] = i + 1 < boxes ? i + 1 : i < boxes ? 0 : NOWHERE;
            }
        }

        void copyFrom(House other) {
            boxes = other.boxes;
            act = other.act;
            told = other.told;
            copyRow(other.looks, looks);
            copyRow(other.scores, scores);
            copyRow(other.guessed, guessed);
            for (int i = 0; i < told; i++) {
                Rumour mine = rumourAt(i);
                Rumour theirs = other.rumourAt(i);
                if (mine != null && theirs != null) {
                    mine.copyFrom(theirs);
                }
            }
        }

        boolean hasBox(int box) {
            return box >= 0 && box < boxes;
        }

        boolean suits(int kind, int a, int b) {
            if (kind < LOOKS || kind > BEYOND || !hasBox(a)) {
                return false;
            }
            if (kind == WATCHED) {
                return b >= 0 && b <= MOST_WATCHERS;
            }
            return hasBox(b) && (kind == BEYOND || a != b);
        }

        boolean hasRoomFor(int more) {
            return told + more <= MOST_RUMOURS;
        }

        /** Returns null for a rumour that was not told. */
        Rumour rumourAt(int index) {
            return index >= 0 && index < told && index < rumours.length ? rumours[index] : null;
        }

        void addRumour(int teller, int kind, int a, int b) {
            if (!hasRoomFor(1)) {
                return;
            }
            told++;
            Rumour added = rumourAt(told - 1);
            if (added != null) {
                added.become(teller, kind, a, b);
            }
        }

        int openRumours() {
            int found = 0;
            for (int i = 0; i < told; i++) {
                if (isOpen(i)) {
                    found++;
                }
            }
            return found;
        }

        boolean isOpen(int index) {
            Rumour asked = rumourAt(index);
            return asked != null && asked.status == OPEN;
        }

        boolean isTrue(int index) {
            Rumour asked = rumourAt(index);
            return asked != null && asked.holdsIn(looks);
        }

        int revealOpen() {
            int revealed = 0;
            for (int i = 0; i < told; i++) {
                Rumour next = rumourAt(i);
                if (next != null && next.status == OPEN) {
                    next.decide(next.holdsIn(looks));
                    revealed++;
                }
            }
            return revealed;
        }

        void finishAct() {
            for (int i = 0; i < told; i++) {
                addAt(scores, tellerOf(i), isTrue(i) ? 1 : -1);
            }
            told = 0;
            fillRow(guessed, 0);
            act++;
        }

        int tellerOf(int index) {
            Rumour asked = rumourAt(index);
            return asked != null ? asked.teller : NOWHERE;
        }

        int toldBy(int person) {
            int found = 0;
            for (int i = 0; i < told; i++) {
                if (tellerOf(i) == person) {
                    found++;
                }
            }
            return found;
        }

        int toldTrulyBy(int person) {
            int found = 0;
            for (int i = 0; i < told; i++) {
                if (tellerOf(i) == person && isTrue(i)) {
                    found++;
                }
            }
            return found;
        }

        /** Returns the first rumour from an index on that makes a world impossible, or NONE. */
        int firstBroken(int from, int[] boxOf) {
            for (int i = Math.max(from, 0); i < told && i < rumours.length; i++) {
                Rumour next = rumours[i];
                if (next != null && next.status != OPEN && next.isBrokenIn(boxOf)) {
                    return i;
                }
            }
            return NONE;
        }
    }

    /** Steps through all worlds of a house, the box of the last person changing first. */
    private static final class Walk {
        private int boxes;
        private final int[] boxOf = new int[MOST_BOXES];

        /** Goes to the first world, and returns how many there are. */
        int begin(int newBoxes) {
            boxes = newBoxes;
            int worlds = 1;
            for (int i = 0; i < boxOf.length; i++) {
                boxOf[i] = i < boxes ? firstBoxFor(i) : NOWHERE;
                worlds *= i < boxes ? boxes - 1 : 1;
            }
            return worlds;
        }

        void step() {
            for (int i = boxes - 1; i >= 0; i--) {
                int next = at(boxOf, i) + 1;
                if (next == i) {
                    next++;
                }
                if (next < boxes) {
                    setAt(boxOf, i, next);
                    return;
                }
                setAt(boxOf, i, firstBoxFor(i));
            }
        }

        private static int firstBoxFor(int person) {
            return person == 0 ? 1 : 0;
        }
    }

    /** What all possible worlds say together; the numbers of take() answer most questions until the next change. */
    private static final class Survey {
        private final Walk walk = new Walk();
        private int worlds;
        private int mostWatchedPerson;
        private int mostWatchers;
        private final int[] looking = new int[MOST_BOXES * MOST_BOXES];
        private final int[] holding = new int[MOST_RUMOURS];
        /** For each rumour the worlds that it alone makes impossible. */
        private final int[] onlyBroken = new int[MOST_RUMOURS];
        private final Rumour supposed = new Rumour();

        void take(House house) {
            forget();
            for (int left = walk.begin(house.boxes); left > 0; left--) {
                int broken = house.firstBroken(0, walk.boxOf);
                if (broken == NONE) {
                    tally(house);
                } else if (house.firstBroken(broken + 1, walk.boxOf) == NONE) {
                    addAt(onlyBroken, broken, 1);
                }
                walk.step();
            }
        }

        private void forget() {
            worlds = 0;
            fillRow(looking, 0);
            fillRow(holding, 0);
            fillRow(onlyBroken, 0);
        }

        private void tally(House house) {
            worlds++;
            for (int i = 0; i < house.boxes; i++) {
                addAt(looking, i * MOST_BOXES + at(walk.boxOf, i), 1);
            }
            for (int i = 0; i < house.told; i++) {
                Rumour next = house.rumourAt(i);
                if (next != null && next.holdsIn(walk.boxOf)) {
                    addAt(holding, i, 1);
                }
            }
        }

        int lookingAt(int person, int box) {
            return at(looking, person * MOST_BOXES + box);
        }

        /** Whether something that is so in a number of worlds is so in all; in a contradiction nothing is certain. */
        boolean isCertain(int inWorlds) {
            return worlds > 0 && inWorlds == worlds;
        }

        boolean isRuledOut(int inWorlds) {
            return worlds > 0 && inWorlds == 0;
        }

        int certainBox(int person) {
            for (int box = 0; box < MOST_BOXES; box++) {
                if (isCertain(lookingAt(person, box))) {
                    return box;
                }
            }
            return NONE;
        }

        int certainPersons(int boxes) {
            int found = 0;
            for (int i = 0; i < boxes; i++) {
                if (certainBox(i) != NONE) {
                    found++;
                }
            }
            return found;
        }

        int openCertain(House house) {
            int found = 0;
            for (int i = 0; i < house.told; i++) {
                if (house.isOpen(i) && isCertain(at(holding, i))) {
                    found++;
                }
            }
            return found;
        }

        int openRuledOut(House house) {
            int found = 0;
            for (int i = 0; i < house.told; i++) {
                if (house.isOpen(i) && isRuledOut(at(holding, i))) {
                    found++;
                }
            }
            return found;
        }

        /** Returns the greater number of worlds that a proof or a refutation of a rumour would leave. */
        int worseOutcome(int index) {
            int holds = at(holding, index);
            return Math.max(holds, worlds - holds);
        }

        int sharpestRumour(House house) {
            int best = NONE;
            for (int i = 0; i < house.told; i++) {
                if (house.isOpen(i) && (best == NONE || worseOutcome(i) < worseOutcome(best))) {
                    best = i;
                }
            }
            return best;
        }

        int mostToBlame(House house) {
            int worst = NONE;
            for (int i = 0; i < house.told; i++) {
                if (!house.isOpen(i) && (worst == NONE || at(onlyBroken, i) > at(onlyBroken, worst))) {
                    worst = i;
                }
            }
            return worst;
        }

        int worldsWith(House house, int kind, int a, int b) {
            supposed.become(NOWHERE, kind, a, b);
            int found = 0;
            for (int left = walk.begin(house.boxes); left > 0; left--) {
                if (supposed.holdsIn(walk.boxOf) && house.firstBroken(0, walk.boxOf) == NONE) {
                    found++;
                }
                walk.step();
            }
            return found;
        }

        /** Leaves 0 watchers if no world is possible. */
        void findMostWatched(House house) {
            mostWatchedPerson = 0;
            mostWatchers = 0;
            for (int left = walk.begin(house.boxes); left > 0; left--) {
                if (house.firstBroken(0, walk.boxOf) == NONE) {
                    for (int i = 0; i < house.boxes; i++) {
                        compareWatchers(i, watchers(walk.boxOf, i));
                    }
                }
                walk.step();
            }
        }

        private void compareWatchers(int person, int found) {
            if (found > mostWatchers || found == mostWatchers && person < mostWatchedPerson) {
                mostWatchers = found;
                mostWatchedPerson = person;
            }
        }

        /** Returns NO_SUCH if the walk ends before it comes to so many possible worlds. */
        int boxInWorld(House house, int world, int person) {
            int before = 0;
            for (int left = walk.begin(house.boxes); left > 0; left--) {
                if (house.firstBroken(0, walk.boxOf) == NONE) {
                    if (before == world) {
                        return at(walk.boxOf, person);
                    }
                    before++;
                }
                walk.step();
            }
            return NO_SUCH;
        }
    }

    /** The text that is put together by put(), and the rumours in it. */
    private static final class Pad {
        private static final String SIGNS = ">/=~#*";
        /** From the first character of a rumour to that of the next, with the comma. */
        private static final int STRIDE = 6;
        private static final int TELLER_PLACE = 0, COLON_PLACE = 1, A_PLACE = 2, SIGN_PLACE = 3, B_PLACE = 4;

        private final char[] text = new char[MOST_CHARACTERS];
        private int length;

        void append(char character) {
            if (length >= 0 && length < text.length) {
                text[length] = character;
                length++;
            }
        }

        void empty() {
            length = 0;
        }

        private char characterAt(int index) {
            return index >= 0 && index < length && index < text.length ? text[index] : 0;
        }

        int firstFault() {
            for (int i = 0; i < length; i++) {
                if (!canStandAt(i)) {
                    return i;
                }
            }
            return length % STRIDE == B_PLACE + 1 ? NONE : length;
        }

        private boolean canStandAt(int index) {
            char character = characterAt(index);
            switch (index % STRIDE) {
                case TELLER_PLACE: return isDigit(character, MOST_BOXES - 1);
                case COLON_PLACE: return character == ':';
                case A_PLACE: return isDigit(character, MOST_BOXES - 1);
                case SIGN_PLACE: return SIGNS.indexOf(character) >= 0;
                case B_PLACE: return canBeB(character, characterAt(index - 2), SIGNS.indexOf(characterAt(index - 1)));
                default: return character == ',';
            }
        }

        private static boolean canBeB(char character, char ofA, int kind) {
            if (kind == WATCHED) {
                return isDigit(character, MOST_WATCHERS);
            }
            return isDigit(character, MOST_BOXES - 1) && (kind == BEYOND || character != ofA);
        }

        private static boolean isDigit(char character, int most) {
            return character >= '0' && character <= '0' + most;
        }

        // The rest is asked only of a pad without a fault.

        int rumours() {
            return (length + 1) / STRIDE;
        }

        int tellerOf(int index) {
            return digitAt(index * STRIDE + TELLER_PLACE);
        }

        int kindOf(int index) {
            return SIGNS.indexOf(characterAt(index * STRIDE + SIGN_PLACE));
        }

        int aOf(int index) {
            return digitAt(index * STRIDE + A_PLACE);
        }

        int bOf(int index) {
            return digitAt(index * STRIDE + B_PLACE);
        }

        private int digitAt(int index) {
            return characterAt(index) - '0';
        }
    }

    /** The states before the latest changes, in a ring, so that the oldest one is overwritten. */
    private static final class History {
        private final House[] states = new House[KEPT_STATES];
        private int kept;
        private int next;

        History() {
            for (int i = 0; i < states.length; i++) {
                states[i] = new House();
            }
        }

        private House stateAt(int index) {
            return index >= 0 && index < states.length ? states[index] : null;
        }

        void record(House house) {
            House state = stateAt(next);
            if (state == null) {
                return;
            }
            state.copyFrom(house);
            next = next + 1 < states.length ? next + 1 : 0;
            kept = Math.min(kept + 1, states.length);
        }

        void takeBack(House house) {
            int latest = next > 0 ? next - 1 : states.length - 1;
            House state = stateAt(latest);
            if (kept == 0 || state == null) {
                return;
            }
            house.copyFrom(state);
            next = latest;
            kept--;
        }
    }

    /** A place for one saved state. */
    private static final class Slot {
        private final House state = new House();
        private boolean used;
    }
}
