/** Promises 1 to 10: a new object, and the changes. */
public final class ChangesTest {
    private static final int MIN = Integer.MIN_VALUE, MAX = Integer.MAX_VALUE;
    private static final Checks checks = new Checks();

    public static void main(String[] args) {
        newObject();
        open();
        openBeginsAnew();
        look();
        lookErrors();
        tell();
        tellErrors();
        tellTooMany();
        tellAll();
        tellAllErrors();
        tellAllTooMany();
        prove();
        proveAgainstTheTruth();
        reveal();
        doubt();
        guess();
        guessInContradiction();
        guessErrors();
        endAct();
        errorsChangeNothing();
        checks.end();
    }

    private static void due(String call, long got, long want) {
        checks.due(call, got, want);
    }

    private static void looksAsAtFirst(OperaGlasses x, int boxes) {
        for (int p = 0; p < boxes; p++) {
            due("looks at first of " + boxes + ", person " + p, x.person(p, 0), (p + 1) % boxes);
        }
        due("no person behind the last", x.person(boxes, 0), OperaGlasses.NO_SUCH);
    }

    private static void newObject() {
        OperaGlasses x = new OperaGlasses();
        int[] numbers = {4, 0, 0, 81, 1, 0, 0, 0, 0, 0, 0};
        for (int what = 0; what < numbers.length; what++) {
            due("new: count(" + what + ")", x.count(what), numbers[what]);
        }
        looksAsAtFirst(x, 4);
        for (int p = 0; p < 4; p++) {
            due("new: score", x.person(p, 1), 1000);
            due("new: guessed", x.person(p, 2), 0);
            due("new: told", x.person(p, 3), 0);
            due("new: watchers", x.person(p, 5), 1);
        }
        due("new: fault()", x.fault(), 0);
        due("new: undo()", x.undo(), OperaGlasses.NOT_POSSIBLE);
        due("new: restore(0)", x.restore(0), OperaGlasses.NOT_POSSIBLE);
        due("new: restore(1)", x.restore(1), OperaGlasses.NOT_POSSIBLE);
    }

    private static void open() {
        OperaGlasses x = new OperaGlasses();
        for (int wrong : new int[] {2, 7, 0, -1, MIN, MAX}) {
            due("open(" + wrong + ")", x.open(wrong), OperaGlasses.BAD_VALUE);
        }
        due("boxes after wrong ones", x.count(0), 4);
        due("undo after wrong ones", x.count(10), 0);
        int[] worlds = {8, 81, 1024, 15625};
        int before = 4;
        for (int boxes = 3; boxes <= 6; boxes++) {
            due("open(" + boxes + ")", x.open(boxes), before);
            due("boxes", x.count(0), boxes);
            due("worlds", x.count(3), worlds[boxes - 3]);
            looksAsAtFirst(x, boxes);
            before = boxes;
        }
        due("open(6) again", x.open(6), 6);
        due("all are changes", x.count(10), 5);
    }

    private static void openBeginsAnew() {
        OperaGlasses x = new OperaGlasses();
        x.look(0, 3);
        x.tell(1, OperaGlasses.LOOKS, 0, 3);
        x.endAct();
        x.tell(1, OperaGlasses.LOOKS, 0, 3);
        x.prove(0, true);
        x.guess(0, 1, 2);
        x.save(0);
        Checks.type(x, "0:0>1");
        due("open(4) of 4", x.open(4), 4);
        due("rumours", x.count(1), 0);
        due("worlds", x.count(3), 81);
        due("act", x.count(5), 0);
        due("score of 0", x.person(0, 1), 1000);
        due("score of 1", x.person(1, 1), 1000);
        due("guess is free", x.person(0, 2), 0);
        looksAsAtFirst(x, 4);
        due("the pad stays", x.count(9), 5);
        due("the slot stays", x.restore(0), 1);
    }

    private static void look() {
        OperaGlasses x = new OperaGlasses();
        due("look(0, 3)", x.look(0, 3), 1);
        due("looks at 3", x.person(0, 0), 3);
        due("look(0, 3) again", x.look(0, 3), 3);
        due("look(3, 1)", x.look(3, 1), 0);
        due("watchers of 1", x.person(1, 5), 1);
        due("watchers of 0", x.person(0, 5), 0);
        due("watchers of 3", x.person(3, 5), 2);
        due("changes", x.count(10), 3);
        due("worlds do not know the truth", x.count(3), 81);
    }

    private static void lookErrors() {
        OperaGlasses x = new OperaGlasses();
        for (int wrong : new int[] {-1, 4, 5, MIN, MAX}) {
            due("look(" + wrong + ", 0)", x.look(wrong, 0), OperaGlasses.NO_SUCH);
            due("look(0, " + wrong + ")", x.look(0, wrong), OperaGlasses.NO_SUCH);
            due("look(w, w), " + wrong, x.look(wrong, wrong), OperaGlasses.NO_SUCH);
        }
        for (int p = 0; p < 4; p++) {
            due("look at the own one", x.look(p, p), OperaGlasses.BAD_VALUE);
        }
        due("no change", x.count(10), 0);
        looksAsAtFirst(x, 4);
    }

    private static void tell() {
        OperaGlasses x = new OperaGlasses();
        due("tell 0", x.tell(3, OperaGlasses.LOOKS, 0, 1), 0);
        due("tell 1", x.tell(2, OperaGlasses.LOOKS_NOT, 3, 2), 1);
        due("tell 2", x.tell(1, OperaGlasses.MIRROR, 1, 0), 2);
        due("tell 3", x.tell(0, OperaGlasses.SAME, 2, 3), 3);
        due("tell 4", x.tell(0, OperaGlasses.WATCHED, 3, 6), 4);
        due("tell 5", x.tell(0, OperaGlasses.WATCHED, 0, 0), 5);
        due("tell 6", x.tell(0, OperaGlasses.BEYOND, 3, 3), 6);
        due("tell 7, the same as 0", x.tell(3, OperaGlasses.LOOKS, 0, 1), 7);
        int[][] told = {{3, 0, 0, 1}, {2, 1, 3, 2}, {1, 2, 1, 0}, {0, 3, 2, 3}, {0, 4, 3, 6}, {0, 4, 0, 0}, {0, 5, 3, 3}};
        for (int r = 0; r < told.length; r++) {
            for (int what = 0; what < 4; what++) {
                due("rumour(" + r + ", " + what + ")", x.rumour(r, what), told[r][what]);
            }
            due("it is open", x.rumour(r, 4), 0);
        }
        due("rumours", x.count(1), 8);
        due("changes", x.count(10), 6);
        due("nothing is proved by telling", x.count(3), 81);
    }

    private static void tellErrors() {
        OperaGlasses x = new OperaGlasses();
        for (int wrong : new int[] {-1, 4, MIN, MAX}) {
            due("tell by " + wrong, x.tell(wrong, 6, 0, 0), OperaGlasses.NO_SUCH);
            for (int kind = 0; kind <= 5; kind++) {
                due("a is " + wrong + ", kind " + kind, x.tell(0, kind, wrong, 1), OperaGlasses.BAD_VALUE);
            }
            for (int kind : new int[] {0, 1, 2, 3, 5}) {
                due("b is " + wrong + ", kind " + kind, x.tell(0, kind, 1, wrong), OperaGlasses.BAD_VALUE);
            }
        }
        for (int kind : new int[] {-1, 6, MIN, MAX}) {
            due("kind " + kind, x.tell(0, kind, 0, 1), OperaGlasses.BAD_VALUE);
        }
        for (int kind = 0; kind <= 3; kind++) {
            due("a and b alike, kind " + kind, x.tell(0, kind, 2, 2), OperaGlasses.BAD_VALUE);
        }
        for (int b : new int[] {-1, 7, MIN, MAX}) {
            due("just " + b, x.tell(0, OperaGlasses.WATCHED, 0, b), OperaGlasses.BAD_VALUE);
        }
        due("no rumour", x.count(1), 0);
        due("no change", x.count(10), 0);
    }

    private static void tellTooMany() {
        OperaGlasses x = new OperaGlasses();
        for (int i = 0; i < 20; i++) {
            due("tell the " + i + "th", x.tell(i % 4, OperaGlasses.BEYOND, i % 4, i / 5), i);
        }
        due("the 21st", x.tell(0, OperaGlasses.LOOKS, 0, 1), OperaGlasses.TOO_MANY);
        due("the 21st of nobody", x.tell(4, OperaGlasses.LOOKS, 0, 1), OperaGlasses.NO_SUCH);
        due("the 21st that does not suit", x.tell(0, OperaGlasses.LOOKS, 0, 0), OperaGlasses.BAD_VALUE);
        due("rumours", x.count(1), 20);
        due("the last one", x.rumour(19, 3), 3);
        due("its teller", x.rumour(19, 0), 3);
        due("none behind it", x.rumour(20, 0), OperaGlasses.NO_SUCH);
    }

    private static void tellAll() {
        OperaGlasses x = new OperaGlasses();
        x.tell(0, OperaGlasses.LOOKS, 0, 1);
        Checks.type(x, "1:0>1,2:1/0,3:2=3,0:3~2,1:3#6,2:1*1");
        due("tellAll()", x.tellAll(), 6);
        int[][] told = {{1, 0, 0, 1}, {2, 1, 1, 0}, {3, 2, 2, 3}, {0, 3, 3, 2}, {1, 4, 3, 6}, {2, 5, 1, 1}};
        for (int r = 0; r < told.length; r++) {
            for (int what = 0; what < 4; what++) {
                due("rumour(" + (r + 1) + ", " + what + ")", x.rumour(r + 1, what), told[r][what]);
            }
            due("it is open", x.rumour(r + 1, 4), 0);
        }
        due("the pad is empty", x.count(9), 0);
        due("tellAll() of nothing", x.tellAll(), OperaGlasses.BAD_TEXT);
        due("one change", x.count(10), 2);
        due("undo()", x.undo(), 1);
        due("all went", x.count(1), 1);
        due("the pad does not come back", x.count(9), 0);
    }

    private static void tellAllErrors() {
        OperaGlasses x = new OperaGlasses();
        Checks.type(x, "5:5>5");
        due("a fault comes first", x.tellAll(), OperaGlasses.BAD_TEXT);
        x.wipe();
        Checks.type(x, "0:0>4,4:0>1");
        due("a teller before a and b", x.tellAll(), OperaGlasses.NO_SUCH);
        due("the pad stays", x.count(9), 11);
        x.wipe();
        Checks.type(x, "4:0>1,0:0>1");
        due("the first teller is not here", x.tellAll(), OperaGlasses.NO_SUCH);
        x.wipe();
        Checks.type(x, "0:0>4,0:0>1");
        due("the first b is not here", x.tellAll(), OperaGlasses.BAD_VALUE);
        x.wipe();
        Checks.type(x, "0:0>1,0:0>4");
        due("b is not here", x.tellAll(), OperaGlasses.BAD_VALUE);
        x.wipe();
        Checks.type(x, "0:4#1");
        due("a is not here", x.tellAll(), OperaGlasses.BAD_VALUE);
        due("no rumour", x.count(1), 0);
        due("no change", x.count(10), 0);
        x.open(5);
        due("but in a greater house", x.tellAll(), 1);
    }

    private static void tellAllTooMany() {
        OperaGlasses x = new OperaGlasses();
        for (int i = 0; i < 19; i++) {
            x.tell(0, OperaGlasses.LOOKS, 0, 1);
        }
        Checks.type(x, "0:0>2,1:2>3");
        due("one too many", x.tellAll(), OperaGlasses.TOO_MANY);
        due("not one is told", x.count(1), 19);
        due("the pad stays", x.count(9), 11);
        x.wipe();
        Checks.type(x, "0:4>2");
        due("what does not suit comes before", x.tellAll(), OperaGlasses.BAD_VALUE);
        x.wipe();
        Checks.type(x, "3:0>2");
        due("the 20th", x.tellAll(), 1);
        due("it is told", x.rumour(19, 0), 3);
        Checks.type(x, "3:0>2");
        due("the 21st", x.tellAll(), OperaGlasses.TOO_MANY);

        OperaGlasses y = new OperaGlasses();
        for (int round = 1; round <= 2; round++) {
            due("the longest text", Checks.type(y, "0:0>1,0:0>2,0:0>3,1:0>1,1:0>2,1:0>3,2:0>1,2:0>2,2:0>3,3:0>1"), 59);
            due("ten at once", y.tellAll(), 10);
            due("rumours", y.count(1), 10 * round);
        }
        due("the last one", y.rumour(19, 0), 3);
    }

    private static void prove() {
        OperaGlasses x = new OperaGlasses();
        x.tell(0, OperaGlasses.LOOKS, 0, 1);
        x.tell(0, OperaGlasses.LOOKS, 1, 2);
        x.tell(0, OperaGlasses.MIRROR, 2, 3);
        due("prove(0, true)", x.prove(0, true), 27);
        due("prove(1, false)", x.prove(1, false), 18);
        due("it is proved", x.rumour(0, 4), 1);
        due("it is refuted", x.rumour(1, 4), 2);
        due("it is open", x.rumour(2, 4), 0);
        due("a proved one", x.prove(0, false), OperaGlasses.NOT_POSSIBLE);
        due("a refuted one", x.prove(1, true), OperaGlasses.NOT_POSSIBLE);
        for (int wrong : new int[] {3, -1, 20, MIN, MAX}) {
            due("prove(" + wrong + ")", x.prove(wrong, true), OperaGlasses.NO_SUCH);
        }
        due("changes", x.count(10), 5);
        due("prove(2, true)", x.prove(2, true), 2);
    }

    private static void proveAgainstTheTruth() {
        OperaGlasses x = new OperaGlasses();
        x.tell(0, OperaGlasses.LOOKS, 0, 2);
        x.tell(0, OperaGlasses.LOOKS, 0, 3);
        due("against the truth", x.prove(0, true), 27);
        due("the truth is out", x.count(4), 0);
        due("a contradiction", x.prove(1, true), 0);
        due("looks are as before", x.person(0, 0), 1);
    }

    private static void reveal() {
        OperaGlasses x = new OperaGlasses();
        due("reveal() of nothing", x.reveal(), 0);
        due("is a change", x.count(10), 1);
        x.tell(0, OperaGlasses.LOOKS, 0, 1);
        x.tell(0, OperaGlasses.LOOKS, 0, 2);
        x.tell(0, OperaGlasses.WATCHED, 2, 1);
        x.tell(0, OperaGlasses.BEYOND, 0, 2);
        x.prove(0, false);
        due("reveal()", x.reveal(), 3);
        int[] status = {2, 2, 1, 1};
        for (int r = 0; r < 4; r++) {
            due("status of " + r, x.rumour(r, 4), status[r]);
        }
        due("nothing is open", x.count(2), 0);
        due("reveal() again", x.reveal(), 0);
        x.undo();
        x.undo();
        due("reveal() undone", x.count(2), 3);
        x.undo();
        due("with the first one", x.reveal(), 4);
        due("the first one is so", x.rumour(0, 4), 1);
    }

    private static void doubt() {
        OperaGlasses x = new OperaGlasses();
        x.tell(0, OperaGlasses.LOOKS, 0, 1);
        x.tell(0, OperaGlasses.LOOKS, 0, 2);
        due("an open one", x.doubt(0), OperaGlasses.NOT_POSSIBLE);
        for (int wrong : new int[] {2, -1, 20, MIN, MAX}) {
            due("doubt(" + wrong + ")", x.doubt(wrong), OperaGlasses.NO_SUCH);
        }
        x.prove(0, true);
        x.prove(1, true);
        due("doubt(0)", x.doubt(0), 27);
        due("it is open", x.rumour(0, 4), 0);
        due("the other is not", x.rumour(1, 4), 1);
        due("refute it", x.prove(0, false), 27);
        due("doubt a refuted one", x.doubt(0), 27);
        due("doubt(1)", x.doubt(1), 81);
        due("changes", x.count(10), 6);
    }

    private static void guess() {
        OperaGlasses x = new OperaGlasses();
        due("so, not certain", x.guess(0, 1, 2), 1005);
        due("score", x.person(0, 1), 1005);
        due("guessed", x.person(0, 2), 1);
        due("not so, possible", x.guess(1, 0, 2), 998);
        due("guessed twice", x.guess(0, 2, 3), OperaGlasses.NOT_POSSIBLE);
        x.tell(0, OperaGlasses.LOOKS, 0, 1);
        x.prove(0, true);
        due("so, certain", x.guess(2, 0, 1), 1003);
        due("not so, and that is certain", x.guess(3, 0, 2), 996);
        due("others have not changed", x.person(0, 1), 1005);
        x.endAct();
        due("again in the next act", x.guess(0, 1, 3), 1004);
        due("all are changes", x.count(10), 6);
    }

    private static void guessInContradiction() {
        OperaGlasses x = new OperaGlasses();
        x.tell(0, OperaGlasses.LOOKS, 0, 1);
        x.tell(0, OperaGlasses.LOOKS, 0, 2);
        x.prove(0, true);
        x.prove(1, true);
        due("nothing is certain", x.guess(1, 0, 1), 1005);
        due("nor its opposite", x.guess(2, 0, 3), 998);

        OperaGlasses y = new OperaGlasses();
        y.tell(0, OperaGlasses.LOOKS, 0, 2);
        y.prove(0, true);
        due("so, though the opposite is certain", y.guess(1, 0, 1), 1005);
        due("not so, though it is certain", y.guess(2, 0, 2), 998);
    }

    private static void guessErrors() {
        OperaGlasses x = new OperaGlasses();
        for (int wrong : new int[] {-1, 4, MIN, MAX}) {
            due("guess by " + wrong, x.guess(wrong, 0, 1), OperaGlasses.NO_SUCH);
            due("guess of " + wrong, x.guess(0, wrong, 1), OperaGlasses.NO_SUCH);
            due("guess at " + wrong, x.guess(0, 1, wrong), OperaGlasses.NO_SUCH);
            due("no such before the same", x.guess(0, 0, wrong), OperaGlasses.NO_SUCH);
        }
        due("person and other the same", x.guess(1, 1, 2), OperaGlasses.BAD_VALUE);
        due("other and box the same", x.guess(0, 1, 1), OperaGlasses.BAD_VALUE);
        due("person and box may be", x.guess(0, 1, 0), 998);
        due("bad before guessed", x.guess(0, 0, 1), OperaGlasses.BAD_VALUE);
        due("one change", x.count(10), 1);
    }

    private static void endAct() {
        OperaGlasses x = new OperaGlasses();
        x.look(3, 1);
        x.tell(0, OperaGlasses.LOOKS, 0, 1);
        x.tell(0, OperaGlasses.LOOKS, 0, 2);
        x.tell(0, OperaGlasses.WATCHED, 1, 2);
        x.tell(1, OperaGlasses.LOOKS_NOT, 0, 1);
        x.tell(1, OperaGlasses.MIRROR, 0, 1);
        x.tell(2, OperaGlasses.SAME, 0, 3);
        x.prove(0, false);
        x.prove(4, true);
        x.guess(3, 0, 1);
        due("endAct()", x.endAct(), 1);
        int[] scores = {1001, 998, 1001, 1005};
        for (int p = 0; p < 4; p++) {
            due("score of " + p, x.person(p, 1), scores[p]);
            due("can guess again", x.person(p, 2), 0);
            due("has told nothing", x.person(p, 3), 0);
        }
        due("rumours", x.count(1), 0);
        due("worlds", x.count(3), 81);
        due("the looks stay", x.person(3, 0), 1);
        due("tell begins at 0", x.tell(0, OperaGlasses.LOOKS, 0, 2), 0);
        due("endAct() again", x.endAct(), 2);
        due("the score goes on", x.person(0, 1), 1000);
        due("endAct() of nothing", x.endAct(), 3);
        due("the act", x.count(5), 3);
        due("undo()", x.undo(), 5);
        due("the act before", x.count(5), 2);
    }

    private static void errorsChangeNothing() {
        OperaGlasses x = new OperaGlasses();
        x.tell(0, OperaGlasses.LOOKS, 0, 1);
        x.prove(0, true);
        x.guess(0, 1, 2);
        int changes = x.count(10);
        x.open(9);
        x.look(0, 0);
        x.tell(0, 9, 0, 1);
        x.tellAll();
        x.prove(0, false);
        x.doubt(1);
        x.guess(0, 1, 3);
        x.restore(0);
        x.restore(2);
        due("no change of these", x.count(10), changes);
        due("boxes", x.count(0), 4);
        due("look", x.person(0, 0), 1);
        due("rumours", x.count(1), 1);
        due("status", x.rumour(0, 4), 1);
        due("score", x.person(0, 1), 1005);
    }
}
