/** Each sentence of promises 1 to 10 that names a boundary case; that what is refused changes nothing is in RefusalsTest. */
public final class EdgesOfChangesTest {
    private static final int MIN = Integer.MIN_VALUE, MAX = Integer.MAX_VALUE;
    private static final int NO_SUCH = OperaGlasses.NO_SUCH, BAD_VALUE = OperaGlasses.BAD_VALUE;
    private static final int TOO_MANY = OperaGlasses.TOO_MANY, NOT_POSSIBLE = OperaGlasses.NOT_POSSIBLE;
    private static final String TEN = "0:0>1,0:0>2,0:0>3,1:0>1,1:0>2,1:0>3,2:0>1,2:0>2,2:0>3,3:0>1";
    private static final Checks checks = new Checks();

    public static void main(String[] args) {
        newHouse();
        openFromEachToEach();
        openTakesAllAway();
        openIsAChange();
        lookOfFirstAndLast();
        lookErrors();
        lookIsAChange();
        tellFirstAndLast();
        tellWhatDoesNotSuit();
        tellTwenty();
        tellTwentyAgain();
        tellAllOneToTen();
        tellAllUpToTwenty();
        tellAllDigitsOfEachHouse();
        tellAllErrorsInOrder();
        tellAllEmptiesThePad();
        tellAllIsOneChange();
        proveFirstAndLast();
        proveToAllAndToNone();
        proveOnce();
        revealNoneToTwenty();
        revealLeavesWhatIsNotOpen();
        doubtFirstAndLast();
        doubtToAllAndToNone();
        guessScores();
        guessNearlyCertain();
        guessErrors();
        guessAgain();
        endActScores();
        endActOfNothing();
        endActTakesAndLeaves();
        checks.end();
    }

    private static void due(String call, long got, long want) {
        checks.due(call, got, want);
    }

    /** Promise 1: "a house of 4 boxes", and nothing else yet. */
    private static void newHouse() {
        OperaGlasses x = new OperaGlasses();
        due("boxes", x.count(0), 4);
        due("the last person", x.person(3, 0), 0);
        due("no fifth one", x.person(4, 0), NO_SUCH);
        due("no rumour", x.rumour(0, 0), NO_SUCH);
        due("worlds", x.count(3), 81);
        due("the truth is one of them", x.count(4), 1);
        due("the act", x.count(5), 0);
        due("the pad", x.count(9), 0);
        due("nothing to undo", x.count(10), 0);
        due("undo()", x.undo(), NOT_POSSIBLE);
        due("restore(0)", x.restore(0), NOT_POSSIBLE);
        due("restore(1)", x.restore(1), NOT_POSSIBLE);
        due("guess of the first", x.guess(0, 3, 0), 1005);
        due("guess of the last", x.guess(3, 0, 1), 1005);
    }

    /** Promise 2: "3 to 6", "returns how many boxes there were; BAD_VALUE if boxes is out of range". */
    private static void openFromEachToEach() {
        for (int from = 3; from <= 6; from++) {
            for (int to : new int[] {MIN, -4, -1, 0, 1, 2, 3, 4, 5, 6, 7, 8, 256 + 4, MAX}) {
                OperaGlasses x = Houses.of(from);
                boolean right = to >= 3 && to <= 6;
                due("open(" + to + ") of " + from, x.open(to), right ? from : BAD_VALUE);
                due("boxes", x.count(0), right ? to : from);
                due("the last looks at the first", x.person(right ? to - 1 : from - 1, 0), 0);
                due("none behind the last", x.person(right ? to : from, 0), NO_SUCH);
            }
        }
    }

    /** Promise 2: "no rumours, scores 0, the act 0, looks as at first". */
    private static void openTakesAllAway() {
        for (int boxes = 3; boxes <= 6; boxes++) {
            OperaGlasses x = Houses.of(6);
            for (int p = 0; p < 6; p++) {
                x.tell(p, OperaGlasses.LOOKS, p, (p + 2) % 6);
                x.look(p, (p + 3) % 6);
            }
            x.endAct();
            Houses.tellTimes(x, 20);
            x.reveal();
            for (int p = 0; p < 6; p++) {
                x.guess(p, (p + 1) % 6, p);
            }
            due("open(" + boxes + ")", x.open(boxes), 6);
            due("rumours", x.count(1), 0);
            due("none is the first", x.rumour(0, 0), NO_SUCH);
            due("the act", x.count(5), 0);
            for (int p = 0; p < boxes; p++) {
                due("score", x.person(p, 1), 1000);
                due("guess", x.person(p, 2), 0);
                due("told", x.person(p, 3), 0);
                due("look", x.person(p, 0), (p + 1) % boxes);
                due("watchers", x.person(p, 5), 1);
            }
            due("the next act", x.endAct(), 1);
            due("the next rumour", x.tell(0, OperaGlasses.LOOKS, 0, 1), 0);
        }
    }

    /** Promise 2: "This is a change", also if nothing is different then. */
    private static void openIsAChange() {
        OperaGlasses x = new OperaGlasses();
        for (int i = 1; i <= 8; i++) {
            x.open(4);
            due("changes", x.count(10), Math.min(i, 6));
        }
        OperaGlasses y = Houses.lively();
        String before = Seen.house(y);
        y.open(4);
        due("undo()", y.undo(), 5);
        due("all is as before", Seen.house(y).equals(before) ? 1 : 0, 1);
    }

    /** Promise 3: the first and the last person and box of each house. */
    private static void lookOfFirstAndLast() {
        for (int boxes = 3; boxes <= 6; boxes++) {
            OperaGlasses x = Houses.of(boxes);
            int last = boxes - 1;
            due("the first at the last", x.look(0, last), 1);
            due("the last at the one before", x.look(last, last - 1), 0);
            due("the last at the first", x.look(last, 0), last - 1);
            due("the first at the next again", x.look(0, 1), last);
            due("the first", x.person(0, 0), 1);
            due("the last", x.person(last, 0), 0);
        }
    }

    /** Promise 3: "NO_SUCH if there is no such person or box; BAD_VALUE if it is the own one", in this order. */
    private static void lookErrors() {
        for (int boxes = 3; boxes <= 6; boxes++) {
            OperaGlasses x = Houses.of(boxes);
            for (int no : new int[] {MIN, -1, boxes, boxes + 1, 256, MAX}) {
                due("person " + no, x.look(no, 0), NO_SUCH);
                due("box " + no, x.look(0, no), NO_SUCH);
                due("both " + no, x.look(no, no), NO_SUCH);
            }
            for (int p = 0; p < boxes; p++) {
                due("the own one", x.look(p, p), BAD_VALUE);
            }
            due("changes", x.count(10), 1);
        }
    }

    /** Promise 3: "This is a change", also if nothing is different then. */
    private static void lookIsAChange() {
        OperaGlasses x = new OperaGlasses();
        for (int i = 1; i <= 8; i++) {
            due("looks at it already", x.look(3, 0), 0);
            due("changes", x.count(10), Math.min(i, 6));
        }
        x.look(3, 2);
        due("undo()", x.undo(), 5);
        due("the look before", x.person(3, 0), 0);
    }

    /** Promise 4: the first and the last teller, kind, a and b. */
    private static void tellFirstAndLast() {
        for (int boxes = 3; boxes <= 6; boxes++) {
            OperaGlasses x = Houses.of(boxes);
            int last = boxes - 1;
            int told = 0;
            for (int kind = 0; kind <= 5; kind++) {
                due("by the first", x.tell(0, kind, 0, last), told++);
                due("by the last", x.tell(last, kind, last, 0), told++);
            }
            due("the first teller", x.rumour(0, 0), 0);
            due("the first kind", x.rumour(0, 1), OperaGlasses.LOOKS);
            due("the first a", x.rumour(0, 2), 0);
            due("the first b", x.rumour(0, 3), last);
            due("the last teller", x.rumour(11, 0), last);
            due("the last kind", x.rumour(11, 1), OperaGlasses.BEYOND);
            due("the last a", x.rumour(11, 2), last);
            due("the last b", x.rumour(11, 3), 0);
        }
    }

    /** Promise 4: "NO_SUCH if there is no such teller; BAD_VALUE if kind is out of range, or a and b do not suit it." */
    private static void tellWhatDoesNotSuit() {
        for (int boxes = 3; boxes <= 6; boxes++) {
            OperaGlasses x = Houses.of(boxes);
            for (int no : new int[] {MIN, -1, boxes, boxes + 1, MAX}) {
                due("teller " + no, x.tell(no, 0, 0, 1), NO_SUCH);
                due("teller before kind " + no, x.tell(no, -1, 0, 1), NO_SUCH);
                due("teller before a " + no, x.tell(no, 0, no, 1), NO_SUCH);
                for (int kind = 0; kind <= 5; kind++) {
                    due("a " + no + " of kind " + kind, x.tell(0, kind, no, 1), BAD_VALUE);
                    if (kind != OperaGlasses.WATCHED) {
                        due("b " + no + " of kind " + kind, x.tell(0, kind, 1, no), BAD_VALUE);
                    }
                }
            }
            for (int no : new int[] {MIN, -1, 6, 7, 256, MAX}) {
                due("kind " + no, x.tell(0, no, 0, 1), BAD_VALUE);
            }
            for (int b : new int[] {MIN, -1, 0, 6, 7, MAX}) {
                due("just " + b, x.tell(0, OperaGlasses.WATCHED, 0, b), b == 0 ? 0 : b == 6 ? 1 : BAD_VALUE);
            }
        }
    }

    /** Promise 4: "TOO_MANY if there are 20", which is checked last. */
    private static void tellTwenty() {
        OperaGlasses x = new OperaGlasses();
        Houses.tellTimes(x, 19);
        due("the 20th", x.tell(3, OperaGlasses.LOOKS, 3, 2), 19);
        due("the 21st", x.tell(3, OperaGlasses.LOOKS, 3, 2), TOO_MANY);
        due("of nobody", x.tell(4, OperaGlasses.LOOKS, 3, 2), NO_SUCH);
        due("of no kind", x.tell(3, 6, 3, 2), BAD_VALUE);
        due("that does not suit", x.tell(3, OperaGlasses.LOOKS, 3, 3), BAD_VALUE);
        x.undo();
        due("the 20th again", x.tell(0, OperaGlasses.LOOKS, 0, 3), 19);
        due("its a", x.rumour(19, 2), 0);
        due("the 21st again", x.tell(3, OperaGlasses.LOOKS, 3, 2), TOO_MANY);
    }

    /** Promise 4: the number goes on from 0 when all rumours have gone. */
    private static void tellTwentyAgain() {
        OperaGlasses x = new OperaGlasses();
        for (int act = 0; act < 3; act++) {
            for (int i = 0; i < 20; i++) {
                due("tell", x.tell(act, OperaGlasses.BEYOND, i % 4, i / 5), i);
            }
            due("one more", x.tell(act, OperaGlasses.BEYOND, 0, 0), TOO_MANY);
            due("all told by " + act, x.person(act, 3), 20);
            x.endAct();
        }
    }

    /** Promise 5: "returns how many were told": from one to the ten that a pad can hold. */
    private static void tellAllOneToTen() {
        for (int rumours = 1; rumours <= 10; rumours++) {
            OperaGlasses x = new OperaGlasses();
            Checks.type(x, TEN.substring(0, 6 * rumours - 1));
            due("tellAll()", x.tellAll(), rumours);
            due("rumours", x.count(1), rumours);
            for (int i = 0; i < rumours; i++) {
                due("teller of " + i, x.rumour(i, 0), i / 3);
                due("b of " + i, x.rumour(i, 3), i % 3 + 1);
                due("it is open", x.rumour(i, 4), 0);
            }
        }
    }

    /** Promise 5: "TOO_MANY if there would be more than 20." */
    private static void tellAllUpToTwenty() {
        for (int before = 9; before <= 20; before++) {
            for (int more = 1; more <= 10; more++) {
                OperaGlasses x = new OperaGlasses();
                Houses.tellTimes(x, before);
                Checks.type(x, TEN.substring(0, 6 * more - 1));
                boolean fits = before + more <= 20;
                due(more + " behind " + before, x.tellAll(), fits ? more : TOO_MANY);
                due("rumours", x.count(1), fits ? before + more : before);
                due("the pad", x.count(9), fits ? 0 : 6 * more - 1);
            }
        }
    }

    /** Promise 5: what suits "here" ends with the last box of the house, but for the number of kind 4. */
    private static void tellAllDigitsOfEachHouse() {
        for (int boxes = 3; boxes <= 6; boxes++) {
            for (int digit = 0; digit <= 5; digit++) {
                boolean isHere = digit < boxes;
                tellAllIn(boxes, digit + ":0*0", isHere ? 1 : NO_SUCH);
                tellAllIn(boxes, "0:" + digit + "*0", isHere ? 1 : BAD_VALUE);
                tellAllIn(boxes, "0:0*" + digit, isHere ? 1 : BAD_VALUE);
                tellAllIn(boxes, "0:" + digit + "#6", isHere ? 1 : BAD_VALUE);
                tellAllIn(boxes, "0:0#" + digit, 1);
                for (char sign : new char[] {'>', '/', '=', '~'}) {
                    int alike = digit == 0 ? OperaGlasses.BAD_TEXT : isHere ? 1 : BAD_VALUE;
                    tellAllIn(boxes, "0:0" + sign + digit, alike);
                    tellAllIn(boxes, "0:" + digit + sign + "0", alike);
                }
            }
        }
    }

    private static void tellAllIn(int boxes, String text, int want) {
        OperaGlasses x = Houses.of(boxes);
        Checks.type(x, text);
        due("tellAll() of " + text + " in a house of " + boxes, x.tellAll(), want);
        due("rumours", x.count(1), Math.max(want, 0));
    }

    /** Promise 5: an error that is named before comes before, also if a later rumour has it. */
    private static void tellAllErrorsInOrder() {
        tellAllIn(4, "", OperaGlasses.BAD_TEXT);
        tellAllIn(4, "4:4>5,", OperaGlasses.BAD_TEXT);
        tellAllIn(4, "4:4>5,0", OperaGlasses.BAD_TEXT);
        tellAllIn(4, "0:4>5,4:0>1", NO_SUCH);
        tellAllIn(4, "4:0>1,0:4>5", NO_SUCH);
        tellAllIn(4, "4:4>5", NO_SUCH);
        tellAllIn(4, "0:0>4,0:0>1", BAD_VALUE);
        tellAllIn(4, "0:0>1,0:0>4", BAD_VALUE);
        OperaGlasses x = Houses.full();
        due("an empty pad", x.tellAll(), OperaGlasses.BAD_TEXT);
        Checks.type(x, "4:4>5");
        due("a teller", x.tellAll(), NO_SUCH);
        x.wipe();
        Checks.type(x, "0:4>5");
        due("a and b", x.tellAll(), BAD_VALUE);
        x.wipe();
        Checks.type(x, "0:0>1");
        due("too many", x.tellAll(), TOO_MANY);
    }

    /** Promise 5: "and empties the pad". */
    private static void tellAllEmptiesThePad() {
        OperaGlasses x = new OperaGlasses();
        Checks.type(x, TEN);
        x.tellAll();
        due("the length", x.count(9), 0);
        due("the fault", x.fault(), 0);
        due("wipe()", x.wipe(), 0);
        due("tellAll() again", x.tellAll(), OperaGlasses.BAD_TEXT);
        due("as much fits as before", Checks.type(x, TEN + ","), 60);
    }

    /** Promise 5: "this is a change (one, with all of them)". */
    private static void tellAllIsOneChange() {
        OperaGlasses x = new OperaGlasses();
        Checks.type(x, TEN);
        x.tellAll();
        due("changes", x.count(10), 1);
        due("undo()", x.undo(), 0);
        due("rumours", x.count(1), 0);
        due("the pad stays empty", x.count(9), 0);
    }

    /** Promise 6: "NO_SUCH if there is no such rumour": the first, the last, and those beside them. */
    private static void proveFirstAndLast() {
        for (int told : new int[] {0, 1, 2, 19, 20}) {
            for (boolean isSo : new boolean[] {true, false}) {
                OperaGlasses x = new OperaGlasses();
                Houses.tellTimes(x, told);
                for (int no : new int[] {MIN, -1, told, told + 1, 20, 21, MAX}) {
                    due("prove(" + no + ") of " + told, x.prove(no, isSo), NO_SUCH);
                }
                if (told > 0) {
                    due("the last is provable", x.prove(told - 1, isSo) >= 0 ? 1 : 0, 1);
                    due("the last is so", x.rumour(told - 1, 4), isSo ? 1 : 2);
                    due("the first is provable", told == 1 || x.prove(0, isSo) >= 0 ? 1 : 0, 1);
                    due("the first is so", x.rumour(0, 4), isSo ? 1 : 2);
                }
            }
        }
    }

    /** Promise 6: "how many worlds are possible then", from all to none, in the least and the greatest house. */
    private static void proveToAllAndToNone() {
        int[] worlds = {8, 81, 1024, 15625};
        for (int boxes = 3; boxes <= 6; boxes++) {
            OperaGlasses x = Houses.of(boxes);
            x.tell(0, OperaGlasses.WATCHED, 0, 6);
            x.tell(0, OperaGlasses.WATCHED, 0, 6);
            for (int p = 0; p < boxes; p++) {
                x.tell(0, OperaGlasses.LOOKS, p, (p + 1) % boxes);
            }
            int all = worlds[boxes - 3];
            due("all", x.prove(0, false), all);
            for (int p = 0; p < boxes; p++) {
                all /= boxes - 1;
                due("fewer", x.prove(p + 2, true), all);
            }
            due("one is left", x.count(3), 1);
            due("none", x.prove(1, true), 0);
        }
    }

    /** Promise 6: "NOT_POSSIBLE if it is not open", whichever way it was closed. */
    private static void proveOnce() {
        for (boolean was : new boolean[] {true, false}) {
            for (boolean isSo : new boolean[] {true, false}) {
                OperaGlasses x = new OperaGlasses();
                x.tell(0, OperaGlasses.LOOKS, 0, 1);
                x.prove(0, was);
                due("prove again", x.prove(0, isSo), NOT_POSSIBLE);
                due("how it is", x.rumour(0, 4), was ? 1 : 2);
                due("changes", x.count(10), 2);
                x.undo();
                due("prove after undo()", x.prove(0, isSo), isSo ? 27 : 54);
            }
        }
        OperaGlasses y = new OperaGlasses();
        y.tell(0, OperaGlasses.LOOKS, 0, 1);
        y.reveal();
        due("a revealed one", y.prove(0, true), NOT_POSSIBLE);
    }

    /** Promise 7: "returns how many were open", 0 to 20, and "this is a change", also of none. */
    private static void revealNoneToTwenty() {
        for (int told = 0; told <= 20; told++) {
            OperaGlasses x = new OperaGlasses();
            Houses.tellTimes(x, told);
            due("reveal() of " + told, x.reveal(), told);
            due("changes", x.count(10), Math.min(told + 1, 6));
            due("open ones", x.count(2), 0);
            due("the truth is possible", x.count(4), 1);
            for (int r = 0; r < told; r++) {
                due("as it is in truth", x.rumour(r, 4), x.rumour(r, 5) == 1 ? 1 : 2);
            }
            due("reveal() again", x.reveal(), 0);
            due("changes", x.count(10), Math.min(told + 2, 6));
        }
    }

    /** Promise 7: "all open rumours" and no others, "as they are in truth", which the looks of now decide. */
    private static void revealLeavesWhatIsNotOpen() {
        OperaGlasses x = new OperaGlasses();
        for (int i = 0; i < 2; i++) {
            x.tell(0, OperaGlasses.LOOKS, 0, 1);
            x.tell(0, OperaGlasses.LOOKS, 0, 2);
        }
        x.look(0, 2);
        x.prove(0, true);
        x.prove(1, false);
        due("reveal()", x.reveal(), 2);
        int[] status = {1, 2, 2, 1};
        for (int r = 0; r < 4; r++) {
            due("status of " + r, x.rumour(r, 4), status[r]);
        }
    }

    /** Promise 8: "NO_SUCH if there is no such rumour; NOT_POSSIBLE if it is open." */
    private static void doubtFirstAndLast() {
        for (int told : new int[] {0, 1, 2, 19, 20}) {
            OperaGlasses x = new OperaGlasses();
            Houses.tellTimes(x, told);
            for (int no : new int[] {MIN, -1, told, told + 1, 20, 21, MAX}) {
                due("doubt(" + no + ") of " + told, x.doubt(no), NO_SUCH);
            }
            for (int r = 0; r < told; r++) {
                due("doubt of an open one", x.doubt(r), NOT_POSSIBLE);
            }
            x.reveal();
            for (int r = 0; r < told; r++) {
                due("doubt", x.doubt(r) >= 1 ? 1 : 0, 1);
                due("it is open", x.rumour(r, 4), 0);
                due("doubt again", x.doubt(r), NOT_POSSIBLE);
            }
            due("all worlds are back", x.count(3), 81);
        }
    }

    /** Promise 8: "how many worlds are possible then", from none to all. */
    private static void doubtToAllAndToNone() {
        OperaGlasses x = new OperaGlasses();
        for (int box = 1; box <= 3; box++) {
            x.tell(0, OperaGlasses.LOOKS, 0, box);
            x.prove(box - 1, true);
        }
        due("still none", x.doubt(1), 0);
        due("some", x.doubt(0), 27);
        due("refuted, and proved another", x.prove(0, false), 27);
        due("doubt the proved one", x.doubt(2), 54);
        due("doubt the refuted one", x.doubt(0), 81);
    }

    /** Promise 9: "more by 3, and by 2 more if it was not certain; otherwise less by 2, and by 2 more if .. certain". */
    private static void guessScores() {
        OperaGlasses x = Houses.of(6);
        x.tell(0, OperaGlasses.LOOKS, 5, 0);
        x.tell(0, OperaGlasses.LOOKS, 4, 3);
        due("so, of many", x.guess(0, 5, 0), 1005);
        due("not so, of many", x.guess(1, 5, 4), 998);
        x.prove(0, true);
        due("so, and certain", x.guess(2, 5, 0), 1003);
        due("not so, and certainly", x.guess(3, 5, 4), 996);
        x.prove(1, true);
        due("so, though certainly not", x.guess(4, 4, 5), BAD_VALUE);
        due("so, though certainly not", x.guess(5, 4, 5), 1005);
        x.endAct();
        x.tell(0, OperaGlasses.LOOKS, 4, 3);
        x.prove(0, true);
        due("not so, though certain", x.guess(0, 4, 3), 1003);
    }

    /** Promise 9: one world short of certain is not certain. */
    private static void guessNearlyCertain() {
        OperaGlasses x = Houses.of(3);
        x.tell(0, OperaGlasses.WATCHED, 0, 0);
        x.tell(0, OperaGlasses.LOOKS, 0, 1);
        due("worlds", x.prove(0, true), 2);
        due("one of two looks at 1", x.possible(0, 1), 1);
        due("so, in one of two", x.guess(1, 0, 1), 1005);
        due("not so, in one of two", x.guess(2, 0, 2), 998);
        x.endAct();
        x.tell(0, OperaGlasses.WATCHED, 0, 0);
        x.tell(0, OperaGlasses.LOOKS, 0, 1);
        x.prove(0, true);
        due("one world", x.prove(1, true), 1);
        due("so, in one of one", x.guess(1, 0, 1), 1008);
        due("not so, in one of one", x.guess(2, 0, 2), 994);
    }

    /** Promise 9: "NO_SUCH .. person or box; BAD_VALUE .. the same; NOT_POSSIBLE if the person has guessed", in this order. */
    private static void guessErrors() {
        for (int boxes = 3; boxes <= 6; boxes++) {
            OperaGlasses x = Houses.of(boxes);
            int last = boxes - 1;
            due("the last of the first, at the last", x.guess(last, 0, last), 998);
            due("the first of the last, at the first", x.guess(0, last, 0), 1005);
            for (int no : new int[] {MIN, -1, boxes, boxes + 1, MAX}) {
                due("person " + no, x.guess(no, 0, 1), NO_SUCH);
                due("other " + no, x.guess(0, no, 1), NO_SUCH);
                due("box " + no, x.guess(0, 1, no), NO_SUCH);
                due("person and other " + no, x.guess(no, no, 1), NO_SUCH);
                due("other and box " + no, x.guess(0, no, no), NO_SUCH);
                due("oneself at " + no, x.guess(0, 0, no), NO_SUCH);
            }
            due("oneself", x.guess(1, 1, 0), BAD_VALUE);
            due("the other's own box", x.guess(1, 0, 0), BAD_VALUE);
            due("oneself again", x.guess(last, last, 0), BAD_VALUE);
            due("the other's own box again", x.guess(last, 0, 0), BAD_VALUE);
            due("again", x.guess(last, 0, 1), NOT_POSSIBLE);
            due("no change but the two", x.count(10), 3);
            due("the own box is fine", x.guess(1, 0, 1), 1005);
        }
    }

    /** Promise 9: "NOT_POSSIBLE if the person has guessed in this act": in the next one, or when it is undone, it may. */
    private static void guessAgain() {
        OperaGlasses x = new OperaGlasses();
        x.save(0);
        due("guess", x.guess(0, 1, 2), 1005);
        x.save(1);
        due("again", x.guess(0, 1, 2), NOT_POSSIBLE);
        x.undo();
        due("after undo()", x.guess(0, 1, 3), 998);
        x.restore(1);
        due("the saved guess", x.guess(0, 1, 2), NOT_POSSIBLE);
        due("the saved score", x.person(0, 1), 1005);
        x.restore(0);
        due("saved before the guess", x.guess(0, 1, 2), 1005);
        x.endAct();
        due("in the next act", x.guess(0, 1, 2), 1010);
        x.open(4);
        due("in a new house", x.guess(0, 1, 2), 1005);
    }

    /** Promise 10: "1 point for each rumour that is true, and loses 1 for each other one", from -20 to 20, proved or not. */
    private static void endActScores() {
        for (int trueOnes = 0; trueOnes <= 20; trueOnes++) {
            OperaGlasses x = new OperaGlasses();
            for (int i = 0; i < 20; i++) {
                x.tell(3, OperaGlasses.LOOKS, 0, i < trueOnes ? 1 : 2);
            }
            x.prove(0, false);
            x.prove(19, true);
            x.endAct();
            due("score of the teller", x.person(3, 1), 1000 + 2 * trueOnes - 20);
            due("score of the others", x.person(0, 1), 1000);
        }
        OperaGlasses y = new OperaGlasses();
        y.tell(0, OperaGlasses.LOOKS, 0, 2);
        y.look(0, 2);
        y.endAct();
        due("true is what is so at the end", y.person(0, 1), 1001);
    }

    /** Promise 10: an act in which nothing was told; "this is a change", "returns the number of the act then". */
    private static void endActOfNothing() {
        OperaGlasses x = new OperaGlasses();
        for (int act = 1; act <= 8; act++) {
            due("endAct()", x.endAct(), act);
            due("changes", x.count(10), Math.min(act, 6));
        }
        due("undo()", x.undo(), 5);
        due("the act before", x.count(5), 7);
        due("endAct()", x.endAct(), 8);
    }

    /** Promise 10: "all rumours go; everyone can guess again; the looks stay." */
    private static void endActTakesAndLeaves() {
        OperaGlasses x = Houses.of(6);
        for (int p = 0; p < 6; p++) {
            x.look(p, (p + 2) % 6);
            x.guess(p, (p + 1) % 6, (p + 3) % 6);
        }
        Houses.tellTimes(x, 20);
        x.reveal();
        Checks.type(x, TEN);
        x.endAct();
        due("rumours", x.count(1), 0);
        due("worlds", x.count(3), 15625);
        due("the pad stays", x.count(9), 59);
        for (int p = 0; p < 6; p++) {
            due("look of " + p, x.person(p, 0), (p + 2) % 6);
            due("no guess of " + p, x.person(p, 2), 0);
            due("told by " + p, x.person(p, 3), 0);
        }
        due("guess again", x.guess(5, 0, 2) > 0 ? 1 : 0, 1);
    }
}
