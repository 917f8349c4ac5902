/** Each sentence of promises 11 to 20 that names a boundary case. */
public final class EdgesOfAnswersTest {
    private static final int MIN = Integer.MIN_VALUE, MAX = Integer.MAX_VALUE;
    private static final int NO_SUCH = OperaGlasses.NO_SUCH, BAD_VALUE = OperaGlasses.BAD_VALUE;
    private static final int NONE = OperaGlasses.NONE;
    private static final int[] WORLDS = {8, 81, 1024, 15625};
    private static final Checks checks = new Checks();

    public static void main(String[] args) {
        personErrors();
        personLeastAndMost();
        personTold();
        rumourErrors();
        rumourLeastAndMost();
        rumourInPossibleWorldsAlone();
        countErrors();
        countLeast();
        countMost();
        countTruth();
        countCertain();
        possibleErrors();
        possibleNoneToAll();
        certainErrors();
        certainNearlyAndQuite();
        worldErrors();
        worldFirstAndLast();
        worldsInOrder();
        worldsThatAreLeft();
        ifProvedErrors();
        ifProvedNoneToAll();
        ifProvedOfTwenty();
        sharpestErrors();
        sharpestOfNone();
        sharpestOfSeveral();
        sharpestOfWhatTellsNothing();
        sharpestIsRefuted();
        blameErrors();
        blameOfNone();
        blameOfOne();
        blameOfSeveral();
        blameOfRefuted();
        blameWhenNoneHelps();
        mostWatchedErrors();
        mostWatchedLeastAndMost();
        mostWatchedOfSeveral();
        nothingChanges();
        checks.end();
    }

    private static void due(String call, long got, long want) {
        checks.due(call, got, want);
    }

    /** Tells that a person looks at a box, and proves it; returns how many worlds are left. */
    private static int proved(OperaGlasses x, int person, int box) {
        return x.prove(x.tell(0, OperaGlasses.LOOKS, person, box), true);
    }

    /** Promise 11: "NO_SUCH if there is no such person; BAD_VALUE if what is out of range", in this order. */
    private static void personErrors() {
        for (int boxes = 3; boxes <= 6; boxes++) {
            OperaGlasses x = Houses.of(boxes);
            for (int no : new int[] {MIN, -1, boxes, boxes + 1, MAX}) {
                for (int what : new int[] {MIN, -1, 0, 5, 6, MAX}) {
                    due("person(" + no + ", " + what + ")", x.person(no, what), NO_SUCH);
                }
            }
            for (int no : new int[] {MIN, -1, 6, 7, 256, MAX}) {
                due("person(0, " + no + ")", x.person(0, no), BAD_VALUE);
                due("the last, " + no, x.person(boxes - 1, no), BAD_VALUE);
            }
            due("what is 0", x.person(boxes - 1, 0), 0);
            due("what is 5", x.person(boxes - 1, 5), 1);
        }
    }

    /** Promise 11: "how many look at the person's box": none, and all the others. */
    private static void personLeastAndMost() {
        for (int boxes = 3; boxes <= 6; boxes++) {
            OperaGlasses x = Houses.of(boxes);
            int last = boxes - 1;
            for (int p = 0; p < last; p++) {
                x.look(p, last);
                due("watchers of the last", x.person(last, 5), p < last - 1 ? p + 2 : p + 1);
            }
            due("all the others", x.person(last, 5), boxes - 1);
            due("its one", x.person(0, 5), 1);
            due("none", x.person(1, 5), 0);
            x.look(last, last - 1);
            due("none of the first", x.person(0, 5), 0);
        }
    }

    /** Promise 11: "rumours told in this act, of these the true ones", 0 to 20; of open and of closed ones. */
    private static void personTold() {
        OperaGlasses x = new OperaGlasses();
        for (int told = 0; told <= 20; told++) {
            due("told", x.person(2, 3), told);
            due("the true ones", x.person(2, 4), Math.min(told, 10));
            due("another has told nothing", x.person(0, 3), 0);
            due("nor the truth", x.person(0, 4), 0);
            x.tell(2, OperaGlasses.LOOKS, 0, told < 10 ? 1 : 2);
        }
        x.prove(0, false);
        x.prove(19, true);
        due("proofs do not matter", x.person(2, 4), 10);
        x.look(0, 2);
        due("the truth does", x.person(2, 4), 10);
        x.look(0, 3);
        due("none is true", x.person(2, 4), 0);
        due("told", x.person(2, 3), 20);
        x.endAct();
        due("in this act", x.person(2, 3), 0);
    }

    /** Promise 12: "NO_SUCH if there is no such rumour; BAD_VALUE if what is out of range", in this order. */
    private static void rumourErrors() {
        for (int told : new int[] {0, 1, 19, 20}) {
            OperaGlasses x = new OperaGlasses();
            Houses.tellTimes(x, told);
            for (int no : new int[] {MIN, -1, told, told + 1, 20, 21, MAX}) {
                for (int what : new int[] {MIN, -1, 0, 6, 7, MAX}) {
                    due("rumour(" + no + ", " + what + ") of " + told, x.rumour(no, what), NO_SUCH);
                }
            }
            for (int no : new int[] {MIN, -1, 7, 8, 256, MAX}) {
                due("rumour(0, " + no + ")", x.rumour(0, no), told > 0 ? BAD_VALUE : NO_SUCH);
                due("the last, " + no, x.rumour(told - 1, no), told > 0 ? BAD_VALUE : NO_SUCH);
            }
        }
    }

    /** Promise 12: the least and the most of each number. */
    private static void rumourLeastAndMost() {
        OperaGlasses x = Houses.of(6);
        x.tell(0, 0, 0, 1);
        x.tell(5, 5, 5, 5);
        x.tell(5, 4, 5, 6);
        x.tell(5, 4, 5, 0);
        x.prove(0, true);
        x.prove(2, false);
        int[][] due = {{0, 0, 0, 1, 1, 1, 3125}, {5, 5, 5, 5, 0, 0, 500}, {5, 4, 5, 6, 2, 0, 0}, {5, 4, 5, 0, 0, 0, 1280}};
        for (int r = 0; r < due.length; r++) {
            for (int what = 0; what <= 6; what++) {
                due("rumour(" + r + ", " + what + ")", x.rumour(r, what), due[r][what]);
            }
        }
    }

    /** Promise 12: "in how many possible worlds it holds": of a proved one all, of a refuted one none, of none none. */
    private static void rumourInPossibleWorldsAlone() {
        OperaGlasses x = new OperaGlasses();
        x.tell(0, OperaGlasses.LOOKS, 0, 1);
        x.tell(0, OperaGlasses.LOOKS, 0, 2);
        x.tell(0, OperaGlasses.LOOKS, 3, 2);
        due("open", x.rumour(0, 6), 27);
        x.prove(0, true);
        due("proved", x.rumour(0, 6), 27);
        due("against it", x.rumour(1, 6), 0);
        due("beside it", x.rumour(2, 6), 9);
        x.prove(2, false);
        due("refuted", x.rumour(2, 6), 0);
        due("proved, beside a refuted one", x.rumour(0, 6), 18);
        x.prove(1, true);
        for (int r = 0; r < 3; r++) {
            due("in a contradiction", x.rumour(r, 6), 0);
        }
    }

    /** Promise 13: "BAD_VALUE if what is out of range." */
    private static void countErrors() {
        OperaGlasses[] houses = {new OperaGlasses(), Houses.full(), Houses.contradiction(), Houses.of(6)};
        for (OperaGlasses x : houses) {
            for (int no : new int[] {MIN, -1, 11, 12, 256, MAX}) {
                due("count(" + no + ")", x.count(no), BAD_VALUE);
            }
            due("count(0)", x.count(0) >= 4 ? 1 : 0, 1);
            due("count(10)", x.count(10) >= 0 ? 1 : 0, 1);
        }
    }

    /** Promise 13: the least of each number. */
    private static void countLeast() {
        OperaGlasses x = Houses.of(3);
        x.undo();
        int[] least = {4, 0, 0, 81, 1, 0, 0, 0, 0, 0, 0};
        for (int what = 0; what < least.length; what++) {
            due("count(" + what + ")", x.count(what), least[what]);
        }
        due("boxes", Houses.of(3).count(0), 3);
        due("worlds of the least house", Houses.of(3).count(3), 8);
        due("worlds of a contradiction", Houses.contradiction().count(3), 0);
    }

    /** Promise 13: the most of each number; 20 rumours are open at once, 60 characters, 6 changes. */
    private static void countMost() {
        OperaGlasses x = Houses.of(6);
        x.endAct();
        due("worlds", x.count(3), 15625);
        for (int i = 0; i < 20; i++) {
            x.tell(0, OperaGlasses.WATCHED, i % 6, 6);
        }
        Checks.type(x, "?".repeat(60));
        int[] most = {6, 20, 20, 15625, 1, 1, 0, 0, 20, 60, 6};
        for (int what = 0; what < most.length; what++) {
            due("count(" + what + ")", x.count(what), most[what]);
        }
        x.reveal();
        due("none is open", x.count(2), 0);
        due("so that none counts", x.count(8), 0);
    }

    /** Promise 13: "whether the truth is one of them", which is not asked of open rumours. */
    private static void countTruth() {
        OperaGlasses x = new OperaGlasses();
        x.tell(0, OperaGlasses.LOOKS, 0, 2);
        x.tell(0, OperaGlasses.LOOKS, 0, 1);
        due("a false one is open", x.count(4), 1);
        x.prove(0, false);
        due("a false one is refuted", x.count(4), 1);
        x.prove(1, true);
        due("a true one is proved", x.count(4), 1);
        x.look(0, 3);
        due("one is no longer true", x.count(4), 0);
        x.doubt(1);
        due("it is open", x.count(4), 1);
        x.look(0, 2);
        due("the other is true", x.count(4), 0);
    }

    /** Promise 13: one world short of certain, and quite certain. */
    private static void countCertain() {
        OperaGlasses x = Houses.of(3);
        x.tell(0, OperaGlasses.WATCHED, 0, 0);
        x.tell(0, OperaGlasses.LOOKS, 0, 1);
        x.tell(0, OperaGlasses.LOOKS, 0, 2);
        x.tell(0, OperaGlasses.LOOKS, 1, 2);
        due("two worlds", x.prove(0, true), 2);
        due("persons but one", x.count(6), 2);
        due("the one rumour that holds in both", x.count(7), 1);
        due("none that holds in neither", x.count(8), 0);
        due("one world", x.prove(1, true), 1);
        due("all persons", x.count(6), 3);
        due("the rumour that holds", x.count(7), 1);
        due("the one that does not", x.count(8), 1);
        x.prove(2, true);
        due("no world, no person", x.count(6), 0);
        due("no rumour", x.count(7), 0);
        due("no opposite", x.count(8), 0);
    }

    /** Promise 14: "NO_SUCH if there is no such person or box." */
    private static void possibleErrors() {
        for (int boxes = 3; boxes <= 6; boxes++) {
            OperaGlasses x = Houses.of(boxes);
            for (int no : new int[] {MIN, -1, boxes, boxes + 1, 256, MAX}) {
                due("possible(" + no + ", 0)", x.possible(no, 0), NO_SUCH);
                due("possible(0, " + no + ")", x.possible(0, no), NO_SUCH);
                due("possible(no, no), " + no, x.possible(no, no), NO_SUCH);
            }
            due("the last at the first", x.possible(boxes - 1, 0), WORLDS[boxes - 3] / (boxes - 1));
            due("the first at the last", x.possible(0, boxes - 1), WORLDS[boxes - 3] / (boxes - 1));
        }
    }

    /** Promise 14: none (the own box is no error), all, and none in a contradiction. */
    private static void possibleNoneToAll() {
        for (int boxes = 3; boxes <= 6; boxes++) {
            OperaGlasses x = Houses.of(boxes);
            int last = boxes - 1;
            due("the own box", x.possible(last, last), 0);
            int left = proved(x, last, 0);
            due("all that are left", x.possible(last, 0), left);
            due("none that is gone", x.possible(last, 1), 0);
            proved(x, last, 1);
            due("a contradiction", x.possible(last, 0), 0);
        }
    }

    /** Promise 15: "NO_SUCH if there is no such person; NONE if it is not certain." */
    private static void certainErrors() {
        for (int boxes = 3; boxes <= 6; boxes++) {
            OperaGlasses x = Houses.of(boxes);
            for (int no : new int[] {MIN, -1, boxes, boxes + 1, MAX}) {
                due("certain(" + no + ")", x.certain(no), NO_SUCH);
            }
            due("the first", x.certain(0), NONE);
            due("the last", x.certain(boxes - 1), NONE);
        }
    }

    /** Promise 15: the first and the last box, one world short of certain, and no world. */
    private static void certainNearlyAndQuite() {
        for (int boxes = 3; boxes <= 6; boxes++) {
            OperaGlasses x = Houses.of(boxes);
            int last = boxes - 1;
            for (int box = 1; box < last; box++) {
                x.tell(0, OperaGlasses.LOOKS, 0, box);
                due("not yet certain", x.certain(0), NONE);
                x.prove(box - 1, false);
            }
            due("the first looks at the last", x.certain(0), last);
            proved(x, last, 0);
            due("the last looks at the first", x.certain(last), 0);
            proved(x, 0, 1);
            due("no world", x.certain(last), NONE);
        }
        OperaGlasses y = Houses.of(3);
        y.prove(y.tell(0, OperaGlasses.WATCHED, 0, 0), true);
        due("one of two worlds", y.certain(0), NONE);
        due("both", y.certain(1), 2);
        due("both", y.certain(2), 1);
    }

    /** Promise 16: "NO_SUCH if there is no such world or person." */
    private static void worldErrors() {
        for (int boxes = 3; boxes <= 6; boxes++) {
            OperaGlasses x = Houses.of(boxes);
            int worlds = WORLDS[boxes - 3];
            for (int no : new int[] {MIN, -1, worlds, worlds + 1, MAX}) {
                due("world(" + no + ", 0)", x.world(no, 0), NO_SUCH);
            }
            for (int no : new int[] {MIN, -1, boxes, boxes + 1, MAX}) {
                due("world(0, " + no + ")", x.world(0, no), NO_SUCH);
                due("world(-1, " + no + ")", x.world(-1, no), NO_SUCH);
            }
        }
        for (int no : new int[] {MIN, -1, 0, 1, MAX}) {
            due("world(" + no + ", 0) of none", Houses.contradiction().world(no, 0), NO_SUCH);
        }
    }

    /** Promise 16: "0 for the first possible one": all at the lowest boxes; in the last one all at the highest. */
    private static void worldFirstAndLast() {
        for (int boxes = 3; boxes <= 6; boxes++) {
            OperaGlasses x = Houses.of(boxes);
            int last = boxes - 1;
            for (int p = 0; p < boxes; p++) {
                due("the first world", x.world(0, p), p == 0 ? 1 : 0);
                due("the last world", x.world(WORLDS[boxes - 3] - 1, p), p == last ? last - 1 : last);
            }
        }
    }

    /** Promise 16: "in order by the box of the person 0, of these by that of the person 1, and so on": all of 4 boxes. */
    private static void worldsInOrder() {
        int number = 0;
        OperaGlasses x = new OperaGlasses();
        for (int world = 0; world < 256; world++) {
            int[] boxOf = {world >> 6, world >> 4 & 3, world >> 2 & 3, world & 3};
            if (boxOf[0] != 0 && boxOf[1] != 1 && boxOf[2] != 2 && boxOf[3] != 3) {
                for (int p = 0; p < 4; p++) {
                    due("world(" + number + ", " + p + ")", x.world(number, p), boxOf[p]);
                }
                number++;
            }
        }
        due("all of them", number, 81);
    }

    /** Promise 16: worlds that are not possible have no number. */
    private static void worldsThatAreLeft() {
        OperaGlasses x = Houses.of(3);
        x.prove(x.tell(0, OperaGlasses.LOOKS, 0, 1), false);
        int[][] left = {{2, 0, 0}, {2, 0, 1}, {2, 2, 0}, {2, 2, 1}};
        for (int world = 0; world < left.length; world++) {
            for (int p = 0; p < 3; p++) {
                due("world(" + world + ", " + p + ")", x.world(world, p), left[world][p]);
            }
        }
        due("none behind the last", x.world(4, 0), NO_SUCH);
        proved(x, 1, 2);
        proved(x, 2, 1);
        due("the only one", x.world(0, 2), 1);
        due("none behind it", x.world(1, 2), NO_SUCH);
    }

    /** Promise 17: "BAD_VALUE if kind is out of range, or a and b do not suit it." */
    private static void ifProvedErrors() {
        for (int boxes = 3; boxes <= 6; boxes++) {
            OperaGlasses x = Houses.of(boxes);
            int last = boxes - 1;
            for (int no : new int[] {MIN, -1, boxes, boxes + 1, MAX}) {
                for (int kind = 0; kind <= 5; kind++) {
                    due("a " + no + " of kind " + kind, x.ifProved(kind, no, 1), BAD_VALUE);
                    if (kind != OperaGlasses.WATCHED) {
                        due("b " + no + " of kind " + kind, x.ifProved(kind, 1, no), BAD_VALUE);
                        due("both " + no + " of kind " + kind, x.ifProved(kind, no, no), BAD_VALUE);
                    }
                }
            }
            for (int no : new int[] {MIN, -1, 6, 7, 256, MAX}) {
                due("kind " + no, x.ifProved(no, 0, 1), BAD_VALUE);
            }
            for (int kind = 0; kind <= 5; kind++) {
                boolean mayBeAlike = kind >= OperaGlasses.WATCHED;
                due("the last twice, kind " + kind, x.ifProved(kind, last, last) == BAD_VALUE ? 0 : 1, mayBeAlike ? 1 : 0);
                due("the last and the first, kind " + kind, x.ifProved(kind, last, 0) > 0 ? 1 : 0, 1);
            }
            for (int b : new int[] {MIN, -1, 7, MAX}) {
                due("just " + b, x.ifProved(OperaGlasses.WATCHED, last, b), BAD_VALUE);
            }
            due("just 6", x.ifProved(OperaGlasses.WATCHED, last, 6), 0);
        }
    }

    /** Promise 17: none, all, and what is proved already; none in a contradiction. */
    private static void ifProvedNoneToAll() {
        OperaGlasses x = new OperaGlasses();
        proved(x, 0, 1);
        due("all", x.ifProved(OperaGlasses.LOOKS, 0, 1), 27);
        due("all, of another kind", x.ifProved(OperaGlasses.LOOKS_NOT, 0, 2), 27);
        due("none", x.ifProved(OperaGlasses.LOOKS_NOT, 0, 1), 0);
        due("some", x.ifProved(OperaGlasses.BEYOND, 0, 2), 9);
        proved(x, 0, 2);
        due("none of none", x.ifProved(OperaGlasses.LOOKS, 0, 1), 0);
        due("not even of what is so", x.ifProved(OperaGlasses.LOOKS_NOT, 0, 3), 0);
    }

    /** Promise 17: "a rumour that was not told" is not told then: there is room for it beside 20, and it is not kept. */
    private static void ifProvedOfTwenty() {
        OperaGlasses x = Houses.full();
        due("beside 20", x.ifProved(OperaGlasses.LOOKS, 0, 1), 27);
        due("rumours", x.count(1), 20);
        due("worlds", x.count(3), 81);
        due("the last one", x.rumour(19, 1), OperaGlasses.WATCHED);
        due("changes", x.count(10), 6);
        due("beside 20 again", x.ifProved(OperaGlasses.LOOKS, 3, 1), 27);
    }

    /** Promise 18: "BAD_VALUE if what is neither 0 nor 1", before NONE. */
    private static void sharpestErrors() {
        for (OperaGlasses x : new OperaGlasses[] {new OperaGlasses(), Houses.full(), Houses.contradiction()}) {
            for (int no : new int[] {MIN, -1, 2, 3, 256, MAX}) {
                due("sharpest(" + no + ")", x.sharpest(no), BAD_VALUE);
            }
        }
    }

    /** Promise 18: "NONE if there are no open rumours": no rumour at all, or 20 that are not open. */
    private static void sharpestOfNone() {
        OperaGlasses x = new OperaGlasses();
        due("no rumour", x.sharpest(0), NONE);
        due("no rumour, its number", x.sharpest(1), NONE);
        Houses.tellTimes(x, 20);
        x.reveal();
        due("none is open", x.sharpest(0), NONE);
        due("none is open, its number", x.sharpest(1), NONE);
        x.doubt(19);
        due("the last one is", x.sharpest(0), 19);
    }

    /** Promise 18: "of several the lowest rumour", of those that are open. */
    private static void sharpestOfSeveral() {
        OperaGlasses x = new OperaGlasses();
        x.tell(0, OperaGlasses.MIRROR, 0, 1);
        for (int r = 1; r < 20; r++) {
            x.tell(0, OperaGlasses.LOOKS, r / 5, (r / 5 + 1) % 4);
        }
        due("the lowest of 19", x.sharpest(0), 1);
        due("its number", x.sharpest(1), 54);
        x.prove(1, true);
        due("the mirror tells as much now, and is lower", x.sharpest(0), 0);
        due("its number", x.sharpest(1), 18);
        x.undo();
        due("after undo()", x.sharpest(0), 1);
    }

    /** Promise 18: a rumour that is certain leaves all worlds, and in a contradiction all leave none. */
    private static void sharpestOfWhatTellsNothing() {
        OperaGlasses x = new OperaGlasses();
        x.tell(0, OperaGlasses.WATCHED, 0, 6);
        x.tell(0, OperaGlasses.WATCHED, 0, 6);
        due("nothing", x.sharpest(0), 0);
        due("all worlds", x.sharpest(1), 81);
        x.tell(0, OperaGlasses.MIRROR, 0, 1);
        due("a little", x.sharpest(0), 2);
        due("nearly all", x.sharpest(1), 72);
        x.prove(0, true);
        due("the lowest open one of a contradiction", x.sharpest(0), 1);
        due("no world", x.sharpest(1), 0);
    }

    /** Promise 18: "the greater one" of both numbers may be that of the proof, or that of the refutation. */
    private static void sharpestIsRefuted() {
        OperaGlasses x = new OperaGlasses();
        x.tell(0, OperaGlasses.LOOKS_NOT, 0, 1);
        due("the proof leaves more", x.sharpest(1), 54);
        x.tell(0, OperaGlasses.MIRROR, 0, 1);
        due("the refutation leaves more than that", x.sharpest(0), 0);
        x.prove(0, false);
        due("the refutation leaves more", x.sharpest(1), 18);
        due("of the other", x.sharpest(0), 1);
    }

    /** Promise 19: "BAD_VALUE if what is neither 0 nor 1", before NONE. */
    private static void blameErrors() {
        for (OperaGlasses x : new OperaGlasses[] {new OperaGlasses(), Houses.full(), Houses.contradiction()}) {
            for (int no : new int[] {MIN, -1, 2, 3, 256, MAX}) {
                due("blame(" + no + ")", x.blame(no), BAD_VALUE);
            }
        }
    }

    /** Promise 19: "NONE if there is no contradiction": no rumour, open ones, and one world left. */
    private static void blameOfNone() {
        OperaGlasses x = Houses.of(3);
        due("no rumour", x.blame(0), NONE);
        x.tell(0, OperaGlasses.WATCHED, 0, 6);
        due("an open one that can't be so", x.blame(1), NONE);
        for (int p = 0; p < 3; p++) {
            proved(x, p, (p + 1) % 3);
        }
        due("worlds", x.count(3), 1);
        due("one world", x.blame(0), NONE);
        due("one world, its number", x.blame(1), NONE);
        x.prove(0, true);
        due("no world", x.blame(0), 0);
        due("one without it", x.blame(1), 1);
    }

    /** Promise 19: one rumour alone can be a contradiction; without it all worlds are possible. */
    private static void blameOfOne() {
        for (int boxes = 3; boxes <= 6; boxes++) {
            OperaGlasses x = Houses.of(boxes);
            for (int r = 0; r < 20; r++) {
                x.tell(0, OperaGlasses.WATCHED, 0, 6);
            }
            due("no world", x.prove(19, true), 0);
            due("the last one", x.blame(0), 19);
            due("without it", x.blame(1), WORLDS[boxes - 3]);
            x.doubt(19);
            due("open instead", x.blame(0), NONE);
        }
    }

    /** Promise 19: "the most worlds", and "of several the lowest one"; open ones are not asked. */
    private static void blameOfSeveral() {
        OperaGlasses x = Houses.contradiction();
        due("the lower of two", x.blame(0), 0);
        due("without it", x.blame(1), 27);
        x.doubt(0);
        x.prove(0, true);
        due("in whichever order they were proved", x.blame(0), 0);
        x.endAct();
        x.tell(0, OperaGlasses.LOOKS, 0, 1);
        x.tell(0, OperaGlasses.MIRROR, 0, 1);
        x.tell(0, OperaGlasses.LOOKS_NOT, 0, 1);
        x.tell(0, OperaGlasses.LOOKS_NOT, 1, 0);
        x.prove(1, true);
        x.prove(2, true);
        due("the mirror, without which more are possible", x.blame(0), 1);
        due("without it", x.blame(1), 54);
        x.doubt(2);
        x.prove(3, true);
        due("the mirror again", x.blame(0), 1);
        x.doubt(1);
        due("two that go together", x.blame(0), NONE);
    }

    /** Promise 19: "of those that are not open", so also of refuted ones. */
    private static void blameOfRefuted() {
        OperaGlasses x = new OperaGlasses();
        x.tell(0, OperaGlasses.LOOKS, 3, 2);
        x.tell(0, OperaGlasses.LOOKS_NOT, 0, 1);
        x.tell(0, OperaGlasses.LOOKS, 0, 1);
        x.prove(1, false);
        due("both refuted", x.prove(2, false), 0);
        due("the lower one", x.blame(0), 1);
        due("without it", x.blame(1), 54);
        OperaGlasses y = new OperaGlasses();
        y.tell(0, OperaGlasses.MIRROR, 0, 1);
        y.tell(0, OperaGlasses.LOOKS_NOT, 0, 1);
        y.prove(0, true);
        y.prove(1, true);
        due("more without the mirror", y.blame(0), 0);
        due("54", y.blame(1), 54);
        OperaGlasses z = new OperaGlasses();
        z.tell(0, OperaGlasses.MIRROR, 0, 1);
        z.tell(0, OperaGlasses.LOOKS, 0, 1);
        z.prove(0, true);
        z.prove(1, false);
        due("more without the mirror than without the refuted look", z.blame(1), 54);
        due("the higher one, if more without it", blamedHigher().blame(0), 1);
        due("54 again", blamedHigher().blame(1), 54);
    }

    private static OperaGlasses blamedHigher() {
        OperaGlasses x = new OperaGlasses();
        x.tell(0, OperaGlasses.LOOKS, 0, 1);
        x.tell(0, OperaGlasses.MIRROR, 0, 1);
        x.prove(0, false);
        x.prove(1, true);
        return x;
    }

    /** Promise 19: when no world is possible without any one of them, all are alike: the lowest that is not open. */
    private static void blameWhenNoneHelps() {
        OperaGlasses x = new OperaGlasses();
        x.tell(0, OperaGlasses.LOOKS, 0, 1);
        for (int r = 1; r <= 3; r++) {
            x.tell(0, OperaGlasses.WATCHED, 0, 6);
        }
        x.prove(2, true);
        x.prove(3, true);
        due("the lowest", x.blame(0), 2);
        due("no world without it", x.blame(1), 0);
        x.prove(0, true);
        due("one that is not part of it", x.blame(0), 0);
        due("no world without it", x.blame(1), 0);
        x.doubt(3);
        due("the one that helps", x.blame(0), 2);
        due("the worlds without it", x.blame(1), 27);
    }

    /** Promise 20: "BAD_VALUE if what is neither 0 nor 1; NONE if no world is possible", in this order. */
    private static void mostWatchedErrors() {
        for (OperaGlasses x : new OperaGlasses[] {new OperaGlasses(), Houses.full(), Houses.contradiction()}) {
            for (int no : new int[] {MIN, -1, 2, 3, 256, MAX}) {
                due("mostWatched(" + no + ")", x.mostWatched(no), BAD_VALUE);
            }
        }
        due("no world", Houses.contradiction().mostWatched(0), NONE);
        due("no world, how many", Houses.contradiction().mostWatched(1), NONE);
    }

    /** Promise 20: from all the others to just one, in each house; the first and the last person. */
    private static void mostWatchedLeastAndMost() {
        for (int boxes = 3; boxes <= 6; boxes++) {
            OperaGlasses x = Houses.of(boxes);
            int last = boxes - 1;
            due("all can watch the first", x.mostWatched(0), 0);
            due("all the others", x.mostWatched(1), boxes - 1);
            x.tell(0, OperaGlasses.WATCHED, last, last);
            x.prove(0, true);
            due("all must watch the last", x.mostWatched(0), last);
            due("all the others", x.mostWatched(1), last);
            due("the last of all worlds alone", proved(x, last, last - 1), 1);
            due("the last still", x.mostWatched(0), last);
            due("all the others still", x.mostWatched(1), last);
            x.endAct();
            for (int p = 0; p < boxes; p++) {
                proved(x, p, p == 0 ? last : p - 1);
            }
            due("one world in a ring", x.count(3), 1);
            due("the lowest of all", x.mostWatched(0), 0);
            due("just one", x.mostWatched(1), 1);
        }
    }

    /** Promise 20: "of several the lowest", be it in a later world; and the most, be it a higher person. */
    private static void mostWatchedOfSeveral() {
        OperaGlasses x = new OperaGlasses();
        proved(x, 0, 3);
        proved(x, 3, 0);
        due("0 by 3 others", x.mostWatched(0), 0);
        due("3", x.mostWatched(1), 3);
        x.prove(x.tell(0, OperaGlasses.LOOKS, 1, 0), false);
        due("3 by 0, 1 and 2 alone", x.mostWatched(0), 3);
        due("3", x.mostWatched(1), 3);
        x.prove(x.tell(0, OperaGlasses.LOOKS, 2, 3), false);
        due("by two: 0, 1, 2 or 3", x.mostWatched(0), 0);
        due("2", x.mostWatched(1), 2);
        x.prove(x.tell(0, OperaGlasses.LOOKS, 2, 0), false);
        due("by two: 3 alone", x.mostWatched(0), 3);
        due("2", x.mostWatched(1), 2);
    }

    /** "What there is; nothing changes", and "what follows; nothing changes": not even in what is asked next. */
    private static void nothingChanges() {
        OperaGlasses x = Houses.lively();
        String before = Seen.house(x);
        due("changes", x.count(10), 6);
        x.world(5, 2);
        x.ifProved(OperaGlasses.WATCHED, 3, 3);
        x.mostWatched(1);
        x.sharpest(1);
        x.blame(1);
        x.certain(3);
        x.fault();
        due("all is as before", Seen.house(x).equals(before) ? 1 : 0, 1);
        due("changes", x.count(10), 6);
        due("the pad", x.count(9), 11);
    }
}
