/** Each sentence of promises 21 to 26 that names a boundary case: the pad, undo, and the slots. */
public final class EdgesOfKeepingTest {
    private static final int MIN = Integer.MIN_VALUE, MAX = Integer.MAX_VALUE;
    private static final int BAD_VALUE = OperaGlasses.BAD_VALUE, TOO_MANY = OperaGlasses.TOO_MANY;
    private static final int NOT_POSSIBLE = OperaGlasses.NOT_POSSIBLE, NONE = OperaGlasses.NONE;
    private static final Checks checks = new Checks();

    public static void main(String[] args) {
        putOneToEight();
        putInOrder();
        putNothing();
        putCodes();
        putGaps();
        putToTheLast();
        putIsNoChange();
        wipeNoneToSixty();
        faultOfNoneToSixty();
        faultChangesNothing();
        undoNothing();
        undoOneToSix();
        undoDropsTheOldest();
        undoWhatIsNotDifferent();
        undoOfEachChange();
        undoAfterRefusals();
        undoAfterUndo();
        undoLeavesThePad();
        undoLeavesTheSlots();
        undoAllThatIsKept();
        saveErrors();
        saveNoneToTwenty();
        saveIsNoChange();
        saveOverwrites();
        saveLeavesThePad();
        restoreErrors();
        restoreNothing();
        restoreIsAChange();
        restoreKeepsTheSlot();
        restoreOfEachSlot();
        restoreLeavesThePad();
        restoreAllThatIsKept();
        checks.end();
    }

    private static void due(String call, long got, long want) {
        checks.due(call, got, want);
    }

    private static void alike(String what, OperaGlasses x, String house) {
        due(what, Seen.house(x).equals(house) ? 1 : 0, 1);
    }

    /** Promise 21: "1 to 8 characters", "returns the length of the pad then". */
    private static void putOneToEight() {
        OperaGlasses x = new OperaGlasses();
        int length = 0;
        for (int more = 1; more <= 8; more++) {
            length += more;
            due(more + " characters", x.put(Checks.packed("!~!~!~!~".substring(0, more))), length);
            due("the length", x.count(9), length);
        }
    }

    /** Promise 21: "its lowest 8 bits are the last character, the next 8 bits the one before". */
    private static void putInOrder() {
        String text = "3:2~0,1:0#6,2:3*3,0:1=2,3:0/3,0:0>3";
        for (int step = 1; step <= 8; step++) {
            OperaGlasses x = new OperaGlasses();
            for (int i = 0; i < text.length(); i += step) {
                x.put(Checks.packed(text.substring(i, Math.min(i + step, text.length()))));
            }
            due("tellAll() of steps of " + step, x.tellAll(), 6);
            int[] tellers = {3, 1, 2, 0, 3, 0};
            int[] kinds = {3, 4, 5, 2, 1, 0};
            int[] as = {2, 0, 3, 1, 0, 0};
            int[] bs = {0, 6, 3, 2, 3, 3};
            for (int r = 0; r < 6; r++) {
                due("teller", x.rumour(r, 0), tellers[r]);
                due("kind", x.rumour(r, 1), kinds[r]);
                due("a", x.rumour(r, 2), as[r]);
                due("b", x.rumour(r, 3), bs[r]);
            }
        }
    }

    /** Promise 21: "BAD_VALUE if there is no character", also on a full pad. */
    private static void putNothing() {
        OperaGlasses x = new OperaGlasses();
        due("put(0)", x.put(0), BAD_VALUE);
        for (int shift = 8; shift <= 56; shift += 8) {
            due("a character above 8 bits that are 0", x.put((long) 'A' << shift), BAD_VALUE);
        }
        Checks.type(x, "A".repeat(60));
        due("put(0) on a full pad", x.put(0), BAD_VALUE);
        due("the length", x.count(9), 60);
    }

    /** Promise 21: "a code is not 33 to 126", at each place of each length. */
    private static void putCodes() {
        for (int length = 1; length <= 8; length++) {
            for (int place = 0; place < length; place++) {
                for (int code : new int[] {1, 9, 31, 32, 33, 34, 125, 126, 127, 128, 129, 160, 161, 254, 255}) {
                    long others = Checks.packed("A".repeat(length)) & ~(255L << 8 * place);
                    boolean right = code >= 33 && code <= 126;
                    OperaGlasses x = new OperaGlasses();
                    due(code + " at " + place + " of " + length, x.put(others | (long) code << 8 * place), right ? length : BAD_VALUE);
                    due("the length", x.count(9), right ? length : 0);
                }
            }
        }
        for (long wrong : new long[] {-1L, Long.MIN_VALUE, Long.MAX_VALUE, MIN, MAX}) {
            due("put(" + wrong + ")", new OperaGlasses().put(wrong), BAD_VALUE);
        }
    }

    /** Promise 21: "everything above them has to be 0, too": each single bit above is one too many. */
    private static void putGaps() {
        for (int length = 1; length <= 7; length++) {
            long text = Checks.packed("A".repeat(length));
            for (int bit = 8 * (length + 1); bit < 64; bit++) {
                due("bit " + bit + " above " + length, new OperaGlasses().put(text | 1L << bit), BAD_VALUE);
            }
            due("no bit above " + length, new OperaGlasses().put(text), length);
        }
    }

    /** Promise 21: "TOO_MANY if the pad would be longer than 60", after BAD_VALUE, and nothing of it is put then. */
    private static void putToTheLast() {
        for (int room = 0; room <= 8; room++) {
            OperaGlasses x = new OperaGlasses();
            Checks.type(x, "A".repeat(60 - room));
            for (int more = 8; more > room; more--) {
                due(more + " in a room of " + room, x.put(Checks.packed("A".repeat(more))), TOO_MANY);
            }
            due("a wrong one", x.put(Checks.packed("AAAAAAA ")), BAD_VALUE);
            due("the length", x.count(9), 60 - room);
            due("just enough", room == 0 ? 60 : x.put(Checks.packed("A".repeat(room))), 60);
            due("one more", x.put('A'), TOO_MANY);
        }
    }

    /** Promises 21 to 23 are no changes: nothing is recorded. */
    private static void putIsNoChange() {
        OperaGlasses x = new OperaGlasses();
        x.put('0');
        x.fault();
        x.wipe();
        due("changes", x.count(10), 0);
        due("undo()", x.undo(), NOT_POSSIBLE);
    }

    /** Promise 22: "empties the pad, and returns the length that it had", 0 to 60. */
    private static void wipeNoneToSixty() {
        for (int length = 0; length <= 60; length++) {
            OperaGlasses x = new OperaGlasses();
            Checks.type(x, "A".repeat(length));
            due("wipe()", x.wipe(), length);
            due("the length", x.count(9), 0);
            due("wipe() again", x.wipe(), 0);
            due("fault()", x.fault(), 0);
            due("nothing of it is left", Checks.type(x, "0:0>1"), 5);
            due("fault()", x.fault(), NONE);
        }
    }

    /** Promise 23: "the fault of the pad, NONE if there is none": at 0, at 59, at the end, and none. */
    private static void faultOfNoneToSixty() {
        String ten = "0:0>1,1:2#6,2:3*3,3:4=5,4:1~0,5:5/4,0:5#5,1:0#0,2:4*0,3:3>5";
        for (int place = 0; place < 59; place++) {
            OperaGlasses x = new OperaGlasses();
            Checks.type(x, ten.substring(0, place) + '!' + ten.substring(place + 1));
            due("fault at " + place, x.fault(), place);
        }
        OperaGlasses x = new OperaGlasses();
        due("an empty pad", x.fault(), 0);
        Checks.type(x, ten);
        due("ten rumours", x.fault(), NONE);
        x.put('!');
        due("the 60th is wrong", x.fault(), 59);
        x.wipe();
        Checks.type(x, ten + ",");
        due("the 60th is a comma", x.fault(), 60);
        OperaGlasses y = new OperaGlasses();
        Checks.type(y, "~".repeat(60));
        due("all are wrong", y.fault(), 0);
    }

    /** Promise 23: asking twice answers the same, and the pad stays. */
    private static void faultChangesNothing() {
        OperaGlasses x = new OperaGlasses();
        Checks.type(x, "0:0>");
        due("fault()", x.fault(), 4);
        due("fault() again", x.fault(), 4);
        due("the length", x.count(9), 4);
        x.put('3');
        due("fault() then", x.fault(), NONE);
        due("tellAll()", x.tellAll(), 1);
    }

    /** Promise 24: "NOT_POSSIBLE if there is none." */
    private static void undoNothing() {
        OperaGlasses x = new OperaGlasses();
        for (int i = 0; i < 3; i++) {
            due("undo() of nothing", x.undo(), NOT_POSSIBLE);
        }
        due("changes", x.count(10), 0);
        x.look(0, 2);
        due("undo() of one", x.undo(), 0);
        due("undo() of nothing again", x.undo(), NOT_POSSIBLE);
        due("the look", x.person(0, 0), 1);
    }

    /** Promise 24: "a history of at most 6 states", "returns how many changes can be undone then". */
    private static void undoOneToSix() {
        for (int changes = 0; changes <= 8; changes++) {
            OperaGlasses x = new OperaGlasses();
            for (int i = 0; i < changes; i++) {
                x.endAct();
            }
            int kept = Math.min(changes, 6);
            due("kept of " + changes, x.count(10), kept);
            for (int left = kept - 1; left >= 0; left--) {
                due("undo() of " + changes, x.undo(), left);
                due("changes", x.count(10), left);
                due("the act", x.count(5), changes - kept + left);
            }
            due("no more", x.undo(), NOT_POSSIBLE);
            due("the act", x.count(5), changes - kept);
        }
    }

    /** Promise 24: "when one more is recorded, the oldest one is dropped", however often that is. */
    private static void undoDropsTheOldest() {
        for (int changes = 6; changes <= 20; changes++) {
            OperaGlasses x = new OperaGlasses();
            for (int i = 0; i < changes; i++) {
                due("tell", x.tell(0, OperaGlasses.BEYOND, i % 4, 0), i);
            }
            for (int i = 1; i <= 6; i++) {
                due("undo()", x.undo(), 6 - i);
                due("rumours", x.count(1), changes - i);
            }
            due("undo() of the seventh", x.undo(), NOT_POSSIBLE);
            due("rumours", x.count(1), changes - 6);
        }
    }

    /** Promise 24: "also if nothing is different then". */
    private static void undoWhatIsNotDifferent() {
        OperaGlasses x = new OperaGlasses();
        x.open(4);
        due("open()", x.count(10), 1);
        x.look(0, 1);
        due("look()", x.count(10), 2);
        x.reveal();
        due("reveal()", x.count(10), 3);
        x.save(0);
        x.restore(0);
        due("restore()", x.count(10), 4);
        for (int left = 3; left >= 0; left--) {
            due("undo()", x.undo(), left);
        }
    }

    private static int change(OperaGlasses x, int which) {
        switch (which) {
            case 0: return x.open(3);
            case 1: return x.look(0, 3);
            case 2: return x.tell(3, OperaGlasses.BEYOND, 1, 1);
            case 3: return x.tellAll();
            case 4: return x.prove(0, true);
            case 5: return x.prove(2, false);
            case 6: return x.reveal();
            case 7: return x.doubt(1);
            case 8: return x.guess(0, 1, 2);
            case 9: return x.endAct();
            default: return x.restore(1);
        }
    }

    /** Promise 24: "each method that is a change .. records the state before it", and just one. */
    private static void undoOfEachChange() {
        for (int which = 0; which <= 10; which++) {
            OperaGlasses x = Houses.lively();
            x.save(1);
            for (int i = 0; i < 6; i++) {
                x.undo();
            }
            due("nothing is left", x.count(10), 0);
            x.restore(1);
            x.look(0, 2);
            String before = Seen.house(x);
            due("change " + which, change(x, which) >= 0 ? 1 : 0, 1);
            due("changes", x.count(10), 3);
            due("undo() of change " + which, x.undo(), 2);
            alike("all is as before change " + which, x, before);
            due("once more", x.undo(), 1);
            due("the look before that", x.person(0, 0), 1);
        }
    }

    /** Promise 24: what "returns no error" alone is recorded. */
    private static void undoAfterRefusals() {
        OperaGlasses x = new OperaGlasses();
        x.look(0, 2);
        x.open(7);
        x.look(0, 0);
        x.tell(4, 0, 0, 1);
        x.tellAll();
        x.prove(0, true);
        x.doubt(0);
        x.guess(0, 0, 1);
        x.restore(0);
        x.restore(2);
        x.save(2);
        due("changes", x.count(10), 1);
        due("undo()", x.undo(), 0);
        due("the look", x.person(0, 0), 1);
    }

    /** Promise 24: undo() is no change itself; what comes after it is recorded behind what is left. */
    private static void undoAfterUndo() {
        for (int undone = 0; undone <= 6; undone++) {
            OperaGlasses x = new OperaGlasses();
            for (int i = 0; i < 9; i++) {
                x.endAct();
            }
            for (int i = 0; i < undone; i++) {
                x.undo();
            }
            due("the act", x.count(5), 9 - undone);
            x.look(0, 3);
            due("kept", x.count(10), Math.min(7 - undone, 6));
            x.look(0, 2);
            due("undo()", x.undo(), Math.min(7 - undone, 5));
            due("the look", x.person(0, 0), 3);
            x.undo();
            due("the look before", x.person(0, 0), 1);
            due("the act is the same", x.count(5), 9 - undone);
            int left = x.count(10);
            due("kept still", left, Math.min(6 - undone, 4));
            for (int i = 1; i <= left; i++) {
                x.undo();
                due("the acts before", x.count(5), 9 - undone - i);
            }
        }
    }

    /** Promise 24: "everything except the pad": what was put, wiped or told stays so. */
    private static void undoLeavesThePad() {
        OperaGlasses x = new OperaGlasses();
        x.look(0, 2);
        Checks.type(x, "0:0>1");
        x.undo();
        due("what was put", x.count(9), 5);
        x.look(0, 2);
        x.wipe();
        x.undo();
        due("what was wiped", x.count(9), 0);
        Checks.type(x, "0:0>1");
        x.tellAll();
        Checks.type(x, "1:1");
        x.undo();
        due("what was put behind what was told", x.count(9), 3);
        Checks.type(x, ">2");
        due("tellAll()", x.tellAll(), 1);
        due("its teller", x.rumour(0, 0), 1);
    }

    /** Promise 24: "everything except .. the slots": what was saved after a change stays saved. */
    private static void undoLeavesTheSlots() {
        OperaGlasses x = new OperaGlasses();
        x.tell(0, OperaGlasses.LOOKS, 0, 1);
        x.save(1);
        due("undo()", x.undo(), 0);
        due("rumours", x.count(1), 0);
        due("the slot", x.restore(1), 1);
        due("rumours", x.count(1), 1);
        due("undo() of it", x.undo(), 0);
        due("the slot still", x.restore(1), 1);
        due("the other slot", x.restore(0), NOT_POSSIBLE);
    }

    /** Promise 24: all of a state with 20 rumours in a house of 6 comes back, from a house of 3. */
    private static void undoAllThatIsKept() {
        OperaGlasses x = bigHouse();
        x.open(3);
        x.tell(2, OperaGlasses.WATCHED, 2, 2);
        x.prove(0, true);
        x.guess(2, 0, 1);
        x.endAct();
        for (int left = 5; left > 1; left--) {
            due("undo()", x.undo() >= 0 ? 1 : 0, 1);
        }
        due("in the house of 3", x.count(0), 3);
        x.undo();
        alike("all is as before", x, Seen.house(bigHouse()));
    }

    private static OperaGlasses bigHouse() {
        OperaGlasses x = Houses.of(6);
        x.endAct();
        for (int i = 0; i < 20; i++) {
            x.tell(i % 6, i % 4, i % 6, (i + 3) % 6);
        }
        x.look(5, 3);
        x.prove(19, true);
        x.prove(4, false);
        x.guess(5, 4, 3);
        x.guess(4, 5, 3);
        return x;
    }

    /** Promise 25: "BAD_VALUE if there is no such slot." */
    private static void saveErrors() {
        OperaGlasses x = new OperaGlasses();
        for (int no : new int[] {MIN, -1, 2, 3, 256, MAX}) {
            due("save(" + no + ")", x.save(no), BAD_VALUE);
        }
        due("nothing is in 0", x.restore(0), NOT_POSSIBLE);
        due("nothing is in 1", x.restore(1), NOT_POSSIBLE);
    }

    /** Promise 25: "returns how many rumours there are", 0 to 20. */
    private static void saveNoneToTwenty() {
        for (int told = 0; told <= 20; told++) {
            OperaGlasses x = new OperaGlasses();
            Houses.tellTimes(x, told);
            due("save(0)", x.save(0), told);
            due("save(1)", x.save(1), told);
            x.endAct();
            due("restore(0)", x.restore(0), told);
            due("rumours", x.count(1), told);
            due("restore(1)", x.restore(1), told);
        }
    }

    /** Promise 25 is no change. */
    private static void saveIsNoChange() {
        OperaGlasses x = new OperaGlasses();
        for (int i = 0; i < 7; i++) {
            x.save(i % 2);
        }
        due("changes", x.count(10), 0);
        due("undo()", x.undo(), NOT_POSSIBLE);
    }

    /** Promise 25: "overwrites what was saved there", and there alone; fewer rumours after more. */
    private static void saveOverwrites() {
        OperaGlasses x = bigHouse();
        due("save(0)", x.save(0), 20);
        due("save(1)", x.save(1), 20);
        x.open(3);
        x.tell(0, OperaGlasses.LOOKS, 0, 1);
        String small = Seen.house(x);
        due("save(0) over it", x.save(0), 1);
        due("restore(1)", x.restore(1), 20);
        alike("the other slot is as it was", x, Seen.house(bigHouse()));
        due("restore(0)", x.restore(0), 1);
        alike("the one is as it is", x, small);
    }

    /** Promise 25: "everything except the pad, the history and the slots". */
    private static void saveLeavesThePad() {
        OperaGlasses x = Houses.lively();
        due("changes", x.count(10), 6);
        x.save(0);
        due("the pad", x.count(9), 11);
        due("changes", x.count(10), 6);
        due("undo()", x.undo(), 5);
        x.wipe();
        x.restore(0);
        due("the pad is not saved", x.count(9), 0);
        due("nor is the history", x.count(10), 6);
    }

    /** Promise 26: "BAD_VALUE if there is no such slot." */
    private static void restoreErrors() {
        OperaGlasses x = new OperaGlasses();
        x.save(0);
        x.save(1);
        for (int no : new int[] {MIN, -1, 2, 3, 256, MAX}) {
            due("restore(" + no + ")", x.restore(no), BAD_VALUE);
        }
        due("changes", x.count(10), 0);
    }

    /** Promise 26: "NOT_POSSIBLE if nothing was saved in it", though something was in the other one. */
    private static void restoreNothing() {
        for (int slot = 0; slot < 2; slot++) {
            OperaGlasses x = new OperaGlasses();
            due("restore(" + slot + ")", x.restore(slot), NOT_POSSIBLE);
            due("save of the other", x.save(1 - slot), 0);
            due("restore(" + slot + ")", x.restore(slot), NOT_POSSIBLE);
            due("changes", x.count(10), 0);
            due("restore of the other", x.restore(1 - slot), 0);
            due("changes", x.count(10), 1);
        }
    }

    /** Promise 26: "this is a change", which undo() takes back; "returns how many rumours there are then". */
    private static void restoreIsAChange() {
        OperaGlasses x = bigHouse();
        x.save(0);
        x.open(3);
        String small = Seen.house(x);
        due("restore(0)", x.restore(0), 20);
        alike("all is as saved", x, Seen.house(bigHouse()));
        due("changes", x.count(10), 6);
        due("undo()", x.undo(), 5);
        alike("all is as before", x, small);
        OperaGlasses y = new OperaGlasses();
        y.save(1);
        for (int i = 1; i <= 8; i++) {
            due("restore(1)", y.restore(1), 0);
            due("changes", y.count(10), Math.min(i, 6));
        }
    }

    /** Promise 26: "which keeps it": what is done after it does not touch the slot. */
    private static void restoreKeepsTheSlot() {
        OperaGlasses x = Houses.lively();
        x.save(0);
        String saved = Seen.house(x);
        for (int i = 0; i < 3; i++) {
            x.look(2, 3);
            x.prove(0, false);
            x.doubt(1);
            x.guess(0, 3, 0);
            x.endAct();
            x.tell(3, OperaGlasses.WATCHED, 3, 3);
            due("restore(0)", x.restore(0), 3);
        }
        alike("all is as saved", x, saved);
    }

    /** Promise 26: "what was saved last in a slot", of each slot its own. */
    private static void restoreOfEachSlot() {
        OperaGlasses x = Houses.of(3);
        x.save(0);
        x.open(5);
        x.save(1);
        x.open(6);
        x.restore(0);
        due("boxes of 0", x.count(0), 3);
        x.restore(1);
        due("boxes of 1", x.count(0), 5);
        x.restore(0);
        due("boxes of 0 again", x.count(0), 3);
        x.save(1);
        x.open(4);
        x.restore(1);
        due("boxes of 1, saved again", x.count(0), 3);
    }

    /** Promise 26: the pad and the other slot stay. */
    private static void restoreLeavesThePad() {
        OperaGlasses x = new OperaGlasses();
        x.save(0);
        Checks.type(x, "0:0>1,1:");
        x.restore(0);
        due("the pad", x.count(9), 8);
        Checks.type(x, "1>2");
        due("tellAll()", x.tellAll(), 2);
        x.restore(0);
        due("told no more", x.count(1), 0);
        due("the pad stays empty", x.count(9), 0);
    }

    /** Promise 26: boxes, looks, scores, guesses, the act, the rumours and how they are: all that promise 25 saves. */
    private static void restoreAllThatIsKept() {
        for (int boxes = 3; boxes <= 6; boxes++) {
            OperaGlasses x = bigHouse();
            x.save(1);
            x.open(boxes);
            x.look(0, 2);
            x.tell(1, OperaGlasses.LOOKS, 2, 1);
            x.prove(0, true);
            x.guess(0, 1, 0);
            x.restore(1);
            alike("all is as saved, after a house of " + boxes, x, Seen.house(bigHouse()));
            due("the guess of the last", x.guess(5, 4, 3), NOT_POSSIBLE);
            due("that of the first", x.guess(0, 5, 3) > 0 ? 1 : 0, 1);
        }
    }
}
