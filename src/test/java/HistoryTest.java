/** Promises 24 to 26: undo, saving. */
public final class HistoryTest {
    private static final int MIN = Integer.MIN_VALUE, MAX = Integer.MAX_VALUE;
    private static final Checks checks = new Checks();

    public static void main(String[] args) {
        undoOfEachChange();
        undoOfSix();
        undoAndGoOn();
        undoOfWhatIsNotDifferent();
        undoLeavesPadAndSlots();
        save();
        saveErrors();
        restore();
        restoreErrors();
        restoreKeepsTheSlot();
        slotsAndHouses();
        checks.end();
    }

    private static void due(String call, long got, long want) {
        checks.due(call, got, want);
    }

    private static int change(OperaGlasses x, int which) {
        switch (which) {
            case 0: return x.open(6);
            case 1: return x.look(0, 3);
            case 2: return x.tell(0, OperaGlasses.BEYOND, 1, 1);
            case 3: return x.tellAll();
            case 4: return x.prove(0, true);
            case 5: return x.reveal();
            case 6: return x.doubt(1);
            case 7: return x.guess(0, 1, 2);
            case 8: return x.endAct();
            default: return x.restore(0);
        }
    }

    private static void undoOfEachChange() {
        for (int which = 0; which < 10; which++) {
            OperaGlasses x = Houses.lively();
            x.save(0);
            x.look(1, 0);
            for (int i = 0; i < 6; i++) {
                x.undo();
            }
            due("nothing to undo", x.undo(), OperaGlasses.NOT_POSSIBLE);
            OperaGlasses y = Houses.lively();
            y.save(0);
            y.look(1, 3);
            String before = Seen.house(y);
            due("change " + which + " is no error", change(y, which) >= 0 ? 1 : 0, 1);
            due("change " + which + " is different", Seen.house(y).equals(before) ? 1 : 0, 0);
            due("undo of change " + which, y.undo(), 5);
            due("all is as before change " + which, Seen.house(y).equals(before) ? 1 : 0, 1);
        }
    }

    private static void undoOfSix() {
        OperaGlasses x = new OperaGlasses();
        for (int i = 1; i <= 8; i++) {
            x.endAct();
            due("can be undone", x.count(10), Math.min(i, 6));
        }
        for (int left = 5; left >= 0; left--) {
            due("undo()", x.undo(), left);
            due("the act", x.count(5), left + 2);
            due("can be undone", x.count(10), left);
        }
        due("undo() of nothing", x.undo(), OperaGlasses.NOT_POSSIBLE);
        due("the act stays", x.count(5), 2);
    }

    private static void undoAndGoOn() {
        OperaGlasses x = new OperaGlasses();
        for (int i = 0; i < 6; i++) {
            x.endAct();
        }
        x.undo();
        x.undo();
        x.look(0, 2);
        due("can be undone", x.count(10), 5);
        x.look(0, 3);
        x.look(1, 3);
        due("at most 6", x.count(10), 6);
        due("undo() 1", x.undo(), 5);
        due("look of 1", x.person(1, 0), 2);
        due("undo() 2", x.undo(), 4);
        due("look of 0", x.person(0, 0), 2);
        due("undo() 3", x.undo(), 3);
        due("the act", x.count(5), 4);
        due("undo() 4", x.undo(), 2);
        due("the act before", x.count(5), 3);
        due("undo() 5", x.undo(), 1);
        due("undo() 6", x.undo(), 0);
        due("the oldest was dropped", x.count(5), 1);
        due("undo() 7", x.undo(), OperaGlasses.NOT_POSSIBLE);
    }

    private static void undoOfWhatIsNotDifferent() {
        OperaGlasses x = new OperaGlasses();
        x.look(0, 1);
        x.reveal();
        x.open(4);
        x.save(1);
        due("three changes", x.count(10), 3);
        x.restore(1);
        due("four changes", x.count(10), 4);
        due("undo()", x.undo(), 3);
    }

    private static void undoLeavesPadAndSlots() {
        OperaGlasses x = new OperaGlasses();
        x.tell(0, OperaGlasses.LOOKS, 0, 1);
        x.save(0);
        x.tell(0, OperaGlasses.LOOKS, 0, 2);
        x.save(0);
        Checks.type(x, "0:0");
        x.undo();
        x.undo();
        due("no rumours", x.count(1), 0);
        due("the pad stays", x.count(9), 3);
        due("the slot stays", x.restore(0), 2);
        due("undo() of restore", x.undo(), 0);
        due("no rumours again", x.count(1), 0);
    }

    private static void save() {
        OperaGlasses x = Houses.lively();
        int changes = x.count(10);
        due("save(0)", x.save(0), 3);
        due("is no change", x.count(10), changes);
        due("the pad stays", x.count(9), 11);
        x.endAct();
        due("save(1)", x.save(1), 0);
        due("restore(0)", x.restore(0), 3);
        due("restore(1)", x.restore(1), 0);
        x.tell(0, OperaGlasses.LOOKS, 0, 1);
        due("save(0) again", x.save(0), 1);
        x.open(3);
        due("what was saved last", x.restore(0), 1);
    }

    private static void saveErrors() {
        OperaGlasses x = new OperaGlasses();
        for (int wrong : new int[] {-1, 2, MIN, MAX}) {
            due("save(" + wrong + ")", x.save(wrong), OperaGlasses.BAD_VALUE);
        }
        due("nothing in 0", x.restore(0), OperaGlasses.NOT_POSSIBLE);
        due("nothing in 1", x.restore(1), OperaGlasses.NOT_POSSIBLE);
    }

    private static void restore() {
        OperaGlasses x = Houses.lively();
        x.save(1);
        String saved = Seen.house(x);
        x.doubt(1);
        x.look(0, 2);
        x.open(6);
        x.tell(5, OperaGlasses.WATCHED, 5, 5);
        x.prove(0, true);
        x.guess(1, 5, 0);
        x.wipe();
        String before = Seen.house(x);
        due("restore(1)", x.restore(1), 3);
        due("all is as saved", Seen.house(x).equals(saved) ? 1 : 0, 1);
        due("the pad is not", x.count(9), 0);
        due("the history is not", x.count(10), 6);
        due("undo()", x.undo(), 5);
        due("all is as before", Seen.house(x).equals(before) ? 1 : 0, 1);
    }

    private static void restoreErrors() {
        OperaGlasses x = new OperaGlasses();
        x.save(0);
        for (int wrong : new int[] {-1, 2, MIN, MAX}) {
            due("restore(" + wrong + ")", x.restore(wrong), OperaGlasses.BAD_VALUE);
        }
        due("nothing was saved in 1", x.restore(1), OperaGlasses.NOT_POSSIBLE);
        due("no change", x.count(10), 0);
        due("restore(0)", x.restore(0), 0);
        due("a change", x.count(10), 1);
    }

    private static void restoreKeepsTheSlot() {
        OperaGlasses x = new OperaGlasses();
        x.tell(0, OperaGlasses.LOOKS, 0, 1);
        x.save(0);
        for (int i = 0; i < 3; i++) {
            due("restore(0)", x.restore(0), 1);
            due("it is open", x.prove(0, true), 27);
            x.look(0, 3);
            x.tell(1, OperaGlasses.LOOKS, 0, 1);
        }
        x.restore(0);
        due("the slot was not touched", x.rumour(0, 4), 0);
        due("nor its looks", x.person(0, 0), 1);
    }

    private static void slotsAndHouses() {
        OperaGlasses x = new OperaGlasses();
        x.open(6);
        x.look(5, 3);
        x.save(0);
        x.open(3);
        x.look(0, 2);
        x.save(1);
        x.restore(0);
        due("boxes of 0", x.count(0), 6);
        due("worlds of 0", x.count(3), 15625);
        due("look of 5", x.person(5, 0), 3);
        x.restore(1);
        due("boxes of 1", x.count(0), 3);
        due("worlds of 1", x.count(3), 8);
        due("look of 0", x.person(0, 0), 2);
        due("watchers of 2", x.person(2, 5), 2);
        due("no person 3", x.person(3, 0), OperaGlasses.NO_SUCH);
    }
}
