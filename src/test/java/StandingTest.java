/** Promises 11 to 13: what there is. */
public final class StandingTest {
    private static final int MIN = Integer.MIN_VALUE, MAX = Integer.MAX_VALUE;
    private static final Checks checks = new Checks();

    public static void main(String[] args) {
        person();
        personErrors();
        truthOfEachKind();
        worldsOfEachKind();
        rumourErrors();
        count();
        countOfWhatIsCertain();
        countInContradiction();
        nothingChanges();
        checks.end();
    }

    private static void due(String call, long got, long want) {
        checks.due(call, got, want);
    }

    private static void person() {
        OperaGlasses x = new OperaGlasses();
        x.look(3, 1);
        x.look(2, 1);
        x.tell(2, OperaGlasses.LOOKS, 0, 1);
        x.tell(2, OperaGlasses.LOOKS, 0, 2);
        x.tell(2, OperaGlasses.WATCHED, 1, 3);
        x.tell(1, OperaGlasses.BEYOND, 0, 1);
        x.prove(1, true);
        x.guess(2, 0, 3);
        int[][] due = {{1, 1000, 0, 0, 0, 0}, {2, 1000, 0, 1, 0, 3}, {1, 996, 1, 3, 2, 1}, {1, 1000, 0, 0, 0, 0}};
        for (int p = 0; p < 4; p++) {
            for (int what = 0; what < 6; what++) {
                due("person(" + p + ", " + what + ")", x.person(p, what), due[p][what]);
            }
        }
        x.look(0, 2);
        due("true ones follow the truth", x.person(2, 4), 1);
        due("as does the other's", x.person(1, 4), 1);
    }

    private static void personErrors() {
        OperaGlasses x = new OperaGlasses();
        for (int wrong : new int[] {-1, 4, 5, MIN, MAX}) {
            due("person(" + wrong + ", 0)", x.person(wrong, 0), OperaGlasses.NO_SUCH);
            due("person(" + wrong + ", 6)", x.person(wrong, 6), OperaGlasses.NO_SUCH);
        }
        for (int wrong : new int[] {-1, 6, MIN, MAX}) {
            due("person(0, " + wrong + ")", x.person(0, wrong), OperaGlasses.BAD_VALUE);
        }
    }

    /** Looks 0 to 1, 1 to 0, 2 to 1, 3 to 0: each kind once true and once not. */
    private static void truthOfEachKind() {
        OperaGlasses x = new OperaGlasses();
        x.look(1, 0);
        x.look(2, 1);
        int[][] rumours = {
            {OperaGlasses.LOOKS, 2, 1, 1}, {OperaGlasses.LOOKS, 1, 2, 0},
            {OperaGlasses.LOOKS_NOT, 2, 0, 1}, {OperaGlasses.LOOKS_NOT, 2, 1, 0},
            {OperaGlasses.MIRROR, 1, 0, 1}, {OperaGlasses.MIRROR, 2, 1, 0}, {OperaGlasses.MIRROR, 1, 2, 0},
            {OperaGlasses.SAME, 0, 2, 1}, {OperaGlasses.SAME, 0, 1, 0}, {OperaGlasses.SAME, 3, 1, 1},
            {OperaGlasses.WATCHED, 0, 2, 1}, {OperaGlasses.WATCHED, 0, 1, 0}, {OperaGlasses.WATCHED, 3, 0, 1},
            {OperaGlasses.BEYOND, 3, 1, 1}, {OperaGlasses.BEYOND, 3, 0, 0}, {OperaGlasses.BEYOND, 0, 0, 1},
            {OperaGlasses.BEYOND, 2, 1, 0},
        };
        for (int r = 0; r < rumours.length; r++) {
            x.tell(0, rumours[r][0], rumours[r][1], rumours[r][2]);
            due("truth of " + r, x.rumour(r, 5), rumours[r][3]);
        }
        x.prove(0, false);
        due("a refuted one may be true", x.rumour(0, 5), 1);
    }

    /** In a house of 4 boxes, by hand: each person has 3 boxes, 81 worlds in all. */
    private static void worldsOfEachKind() {
        OperaGlasses x = new OperaGlasses();
        int[][] rumours = {
            {OperaGlasses.LOOKS, 0, 1, 27}, {OperaGlasses.LOOKS_NOT, 0, 1, 54},
            {OperaGlasses.MIRROR, 0, 1, 9}, {OperaGlasses.SAME, 0, 1, 18},
            {OperaGlasses.WATCHED, 0, 0, 24}, {OperaGlasses.WATCHED, 0, 1, 36}, {OperaGlasses.WATCHED, 0, 2, 18},
            {OperaGlasses.WATCHED, 0, 3, 3}, {OperaGlasses.WATCHED, 0, 4, 0}, {OperaGlasses.WATCHED, 0, 6, 0},
            {OperaGlasses.BEYOND, 0, 0, 27}, {OperaGlasses.BEYOND, 0, 1, 18},
        };
        for (int r = 0; r < rumours.length; r++) {
            x.tell(0, rumours[r][0], rumours[r][1], rumours[r][2]);
            due("worlds of " + r, x.rumour(r, 6), rumours[r][3]);
        }
        x.prove(0, true);
        due("a proved one holds in all", x.rumour(0, 6), 27);
        due("its opposite in none", x.rumour(1, 6), 0);
        due("one that depends on it", x.rumour(2, 6), 9);
        x.prove(2, false);
        due("a refuted one holds in none", x.rumour(2, 6), 0);
        due("the others in what is left", x.rumour(0, 6), 18);
    }

    private static void rumourErrors() {
        OperaGlasses x = new OperaGlasses();
        due("rumour(0, 0) of none", x.rumour(0, 0), OperaGlasses.NO_SUCH);
        x.tell(0, OperaGlasses.LOOKS, 0, 1);
        for (int wrong : new int[] {-1, 1, 20, MIN, MAX}) {
            due("rumour(" + wrong + ", 0)", x.rumour(wrong, 0), OperaGlasses.NO_SUCH);
            due("rumour(" + wrong + ", 7)", x.rumour(wrong, 7), OperaGlasses.NO_SUCH);
        }
        for (int wrong : new int[] {-1, 7, MIN, MAX}) {
            due("rumour(0, " + wrong + ")", x.rumour(0, wrong), OperaGlasses.BAD_VALUE);
        }
        x.endAct();
        due("rumours go with the act", x.rumour(0, 0), OperaGlasses.NO_SUCH);
    }

    private static void count() {
        OperaGlasses x = new OperaGlasses();
        x.open(5);
        x.endAct();
        x.endAct();
        x.tell(0, OperaGlasses.LOOKS, 0, 1);
        x.tell(0, OperaGlasses.LOOKS, 1, 2);
        x.prove(0, true);
        Checks.type(x, "abc");
        int[] due = {5, 2, 1, 256, 1, 2, 1, 0, 0, 3, 6};
        for (int what = 0; what < due.length; what++) {
            due("count(" + what + ")", x.count(what), due[what]);
        }
        for (int wrong : new int[] {-1, 11, MIN, MAX}) {
            due("count(" + wrong + ")", x.count(wrong), OperaGlasses.BAD_VALUE);
        }
    }

    private static void countOfWhatIsCertain() {
        OperaGlasses x = new OperaGlasses();
        x.open(3);
        x.tell(0, OperaGlasses.WATCHED, 0, 2);
        x.tell(0, OperaGlasses.LOOKS, 1, 0);
        x.tell(0, OperaGlasses.LOOKS, 2, 0);
        x.tell(0, OperaGlasses.SAME, 1, 2);
        x.tell(0, OperaGlasses.LOOKS, 1, 2);
        x.tell(0, OperaGlasses.LOOKS, 0, 1);
        due("none is certain yet", x.count(7), 0);
        due("nor its opposite", x.count(8), 0);
        due("prove", x.prove(0, true), 2);
        due("persons", x.count(6), 2);
        due("certain rumours", x.count(7), 3);
        due("those whose opposite is certain", x.count(8), 1);
        due("the truth is not one of them", x.count(4), 0);
        x.look(1, 0);
        due("but now it is", x.count(4), 1);
        due("only open ones count", x.prove(1, true), 2);
        due("certain rumours that are open", x.count(7), 2);
        due("all", x.prove(5, true), 1);
        due("all persons", x.count(6), 3);
        x.prove(2, true);
        due("doubt the first", x.doubt(0), 1);
        due("the first is open too", x.count(2), 3);
        due("the first is certain too", x.count(7), 2);
        x.endAct();
        x.tell(0, OperaGlasses.LOOKS, 0, 1);
        x.tell(0, OperaGlasses.LOOKS, 0, 2);
        x.tell(0, OperaGlasses.LOOKS, 2, 1);
        x.prove(1, true);
        due("the first is open, and its opposite is certain", x.count(8), 1);
        x.prove(2, true);
        due("in few worlds as well", x.count(8), 1);
    }

    private static void countInContradiction() {
        OperaGlasses x = new OperaGlasses();
        x.tell(0, OperaGlasses.LOOKS, 0, 1);
        x.tell(0, OperaGlasses.LOOKS, 0, 2);
        x.tell(0, OperaGlasses.LOOKS, 1, 2);
        x.prove(0, true);
        x.prove(1, true);
        int[] due = {4, 3, 1, 0, 0, 0, 0, 0, 0, 0, 5};
        for (int what = 0; what < due.length; what++) {
            due("contradiction: count(" + what + ")", x.count(what), due[what]);
        }
    }

    private static void nothingChanges() {
        OperaGlasses x = new OperaGlasses();
        x.tell(0, OperaGlasses.LOOKS, 0, 1);
        for (int what = -1; what < 12; what++) {
            x.person(0, what);
            x.rumour(0, what);
            x.count(what);
        }
        due("no change", x.count(10), 1);
        due("rumours", x.count(1), 1);
    }
}
