/** Each sentence of "What it is" and "Terms" that names a boundary case; what is refused is in RefusalsTest. */
public final class EdgesOfTermsTest {
    private static final int MIN = Integer.MIN_VALUE, MAX = Integer.MAX_VALUE;
    private static final int[] WORLDS = {8, 81, 1024, 15625};
    private static final String SIGNS = ">/=~#*";
    private static final Checks checks = new Checks();

    public static void main(String[] args) {
        theLastOf512Calls();
        noneIsNoError();
        threeToSixBoxes();
        theLastLooksAtTheFirst();
        noOneLooksAtTheOwnBox();
        twentyRumours();
        looksAndLooksNot();
        eachOther();
        theSameBox();
        justSoManyPersons();
        justSoManyInAllWorlds();
        beyond();
        unlikeBoxes();
        openAtFirst();
        worldsDoNotKnowTheTruth();
        contradiction();
        oneWorld();
        actsAndScores();
        oneGuessInAnAct();
        sixtyCharacters();
        digitsOfTexts();
        signsOfTexts();
        boxesDoNotMatterToTheFault();
        faultOfWhatEndsTooEarly();
        checks.end();
    }

    private static void due(String call, long got, long want) {
        checks.due(call, got, want);
    }

    /** "An object is used for at most 512 calls": all of them are answered. */
    private static void theLastOf512Calls() {
        OperaGlasses x = new OperaGlasses();
        for (int call = 1; call <= 512; call++) {
            due("call " + call, x.endAct(), call);
        }
        OperaGlasses y = new OperaGlasses();
        for (int call = 2; call <= 512; call += 2) {
            due("call " + call, y.guess(0, 1, 2), 1000 + call / 2 * 5);
            y.endAct();
        }
        OperaGlasses z = new OperaGlasses();
        for (int call = 4; call <= 512; call += 4) {
            z.tell(0, OperaGlasses.LOOKS, 1, 3);
            z.prove(0, false);
            due("call " + call, z.guess(0, 1, 3), 1000 - call / 4 * 5 + 1);
            z.endAct();
        }
    }

    /** "NONE (-6) is not an error; it is returned only if no error applies." */
    private static void noneIsNoError() {
        OperaGlasses x = new OperaGlasses();
        OperaGlasses y = Houses.contradiction();
        for (int no : new int[] {MIN, -1, 4, MAX}) {
            due("certain(" + no + ")", x.certain(no), OperaGlasses.NO_SUCH);
            due("certain(" + no + ") in a contradiction", y.certain(no), OperaGlasses.NO_SUCH);
        }
        for (int no : new int[] {MIN, -1, 2, MAX}) {
            due("sharpest(" + no + ")", x.sharpest(no), OperaGlasses.BAD_VALUE);
            due("blame(" + no + ")", x.blame(no), OperaGlasses.BAD_VALUE);
            due("mostWatched(" + no + ") of no world", y.mostWatched(no), OperaGlasses.BAD_VALUE);
        }
        due("certain(0)", x.certain(0), OperaGlasses.NONE);
        due("sharpest(0)", x.sharpest(0), OperaGlasses.NONE);
        due("blame(0)", x.blame(0), OperaGlasses.NONE);
        due("mostWatched(0) of no world", y.mostWatched(0), OperaGlasses.NONE);
    }

    /** "There are 3 to 6 boxes (4 at first), 0 and on, with one person in each, who has the number of the box." */
    private static void threeToSixBoxes() {
        due("boxes at first", new OperaGlasses().count(0), 4);
        for (int boxes = 3; boxes <= 6; boxes++) {
            OperaGlasses x = Houses.of(boxes);
            due("boxes", x.count(0), boxes);
            due("worlds of " + boxes, x.count(3), WORLDS[boxes - 3]);
            for (int p = -1; p <= 7; p++) {
                due("person " + p + " of " + boxes, x.person(p, 2), p >= 0 && p < boxes ? 0 : OperaGlasses.NO_SUCH);
                due("box " + p + " of " + boxes, x.possible(0, p) >= 0 ? 1 : 0, p >= 0 && p < boxes ? 1 : 0);
            }
        }
    }

    /** "At first the person p at the box p + 1, the last one at the box 0." */
    private static void theLastLooksAtTheFirst() {
        for (int boxes = 3; boxes <= 6; boxes++) {
            OperaGlasses x = Houses.of(boxes);
            for (int p = 0; p < boxes; p++) {
                due("person " + p + " of " + boxes, x.person(p, 0), p == boxes - 1 ? 0 : p + 1);
                due("watchers of " + p, x.person(p, 5), 1);
            }
        }
    }

    /** "Each person looks at one box, not at the own one", and "a world tells for each person one box, not the own one." */
    private static void noOneLooksAtTheOwnBox() {
        for (int boxes = 3; boxes <= 6; boxes++) {
            OperaGlasses x = Houses.of(boxes);
            for (int p = 0; p < boxes; p++) {
                due("look at the own one", x.look(p, p), OperaGlasses.BAD_VALUE);
                for (int box = 0; box < boxes; box++) {
                    int each = WORLDS[boxes - 3] / (boxes - 1);
                    due("possible(" + p + ", " + box + ") of " + boxes, x.possible(p, box), box == p ? 0 : each);
                }
            }
        }
    }

    /** "There are up to 20 rumours, numbered in the order in which they were told." */
    private static void twentyRumours() {
        OperaGlasses x = new OperaGlasses();
        due("rumours of none", x.count(1), 0);
        for (int i = 0; i < 20; i++) {
            due("none yet", x.rumour(i, 0), OperaGlasses.NO_SUCH);
            due("tell", x.tell(i % 4, OperaGlasses.BEYOND, i / 5, i % 3), i);
            due("rumours", x.count(1), i + 1);
        }
        for (int i = 0; i < 20; i++) {
            due("teller of " + i, x.rumour(i, 0), i % 4);
            due("a of " + i, x.rumour(i, 2), i / 5);
            due("b of " + i, x.rumour(i, 3), i % 3);
        }
        due("one more", x.tell(0, OperaGlasses.BEYOND, 0, 0), OperaGlasses.TOO_MANY);
        due("rumours", x.count(1), 20);
    }

    /** Tells a rumour, and looks whether it is true. */
    private static void truth(OperaGlasses x, int kind, int a, int b, boolean isSo) {
        int number = x.tell(0, kind, a, b);
        due("truth of kind " + kind + ", " + a + ", " + b, x.rumour(number, 5), isSo ? 1 : 0);
    }

    /** Kinds 0 and 1, with the first and the last person and box. */
    private static void looksAndLooksNot() {
        OperaGlasses x = Houses.of(6);
        for (int b = 1; b < 6; b++) {
            truth(x, OperaGlasses.LOOKS, 0, b, b == 1);
            truth(x, OperaGlasses.LOOKS_NOT, 5, b - 1, b != 1);
        }
    }

    /** "The persons a and b look at each other": one way alone is not enough. */
    private static void eachOther() {
        OperaGlasses x = Houses.of(6);
        truth(x, OperaGlasses.MIRROR, 0, 5, false);
        truth(x, OperaGlasses.MIRROR, 5, 0, false);
        truth(x, OperaGlasses.MIRROR, 2, 4, false);
        x.look(0, 5);
        truth(x, OperaGlasses.MIRROR, 0, 5, true);
        truth(x, OperaGlasses.MIRROR, 5, 0, true);
        due("worlds of it", x.rumour(0, 6), 625);
    }

    /** "The persons a and b look at the same box": also at one that is neither first nor theirs. */
    private static void theSameBox() {
        OperaGlasses x = Houses.of(6);
        truth(x, OperaGlasses.SAME, 0, 5, false);
        x.look(5, 1);
        truth(x, OperaGlasses.SAME, 0, 5, true);
        truth(x, OperaGlasses.SAME, 5, 0, true);
        x.look(0, 5);
        x.look(5, 0);
        truth(x, OperaGlasses.SAME, 0, 5, false);
        due("worlds of it", x.rumour(0, 6), 4 * 625);
    }

    /** "Just b persons look at the box a (b is 0 to 6)": not more, not fewer. */
    private static void justSoManyPersons() {
        for (int watchers = 0; watchers <= 5; watchers++) {
            OperaGlasses x = Houses.of(6);
            for (int p = 0; p < 5; p++) {
                x.look(p, p < watchers ? 5 : (p + 1) % 5);
            }
            for (int b = 0; b <= 6; b++) {
                truth(x, OperaGlasses.WATCHED, 5, b, b == watchers);
            }
        }
    }

    /** Of 0 in a house of 3, by hand: 2 worlds without a watcher, 4 with one, 2 with two, and never more. */
    private static void justSoManyInAllWorlds() {
        OperaGlasses x = Houses.of(3);
        int[] worlds = {2, 4, 2, 0, 0, 0, 0};
        for (int b = 0; b <= 6; b++) {
            x.tell(0, OperaGlasses.WATCHED, 0, b);
            due("just " + b, x.rumour(b, 6), worlds[b]);
        }
        due("one that can't be so is refuted", x.prove(6, false), 8);
        due("one that can't be so is proved", x.prove(3, true), 0);
    }

    /** "The box at which a looks has a person who looks at the box b", who may be a. */
    private static void beyond() {
        OperaGlasses x = Houses.of(3);
        truth(x, OperaGlasses.BEYOND, 0, 2, true);
        truth(x, OperaGlasses.BEYOND, 0, 1, false);
        truth(x, OperaGlasses.BEYOND, 0, 0, false);
        truth(x, OperaGlasses.BEYOND, 2, 1, true);
        x.look(1, 0);
        truth(x, OperaGlasses.BEYOND, 0, 0, true);
        truth(x, OperaGlasses.BEYOND, 1, 1, true);
        due("worlds in which a is beyond a", x.rumour(2, 6), 4);
        due("worlds in which another is", x.rumour(0, 6), 2);
    }

    /** "For all kinds but 4 a and b are two unlike boxes (for 5 they may be the same); for 4 a is a box." */
    private static void unlikeBoxes() {
        for (int boxes = 3; boxes <= 6; boxes++) {
            for (int kind = 0; kind <= 5; kind++) {
                OperaGlasses x = Houses.of(boxes);
                int last = boxes - 1;
                due("the last and the first, kind " + kind, x.tell(0, kind, last, 0), 0);
                due("the first and the last, kind " + kind, x.tell(0, kind, 0, last), 1);
                boolean alike = kind >= OperaGlasses.WATCHED;
                due("the last twice, kind " + kind, x.tell(0, kind, last, last), alike ? 2 : OperaGlasses.BAD_VALUE);
                due("the first twice, kind " + kind, x.tell(0, kind, 0, 0), alike ? 3 : OperaGlasses.BAD_VALUE);
                due("a behind the last, kind " + kind, x.tell(0, kind, boxes, 0), OperaGlasses.BAD_VALUE);
                boolean number = kind == OperaGlasses.WATCHED;
                due("b behind the last, kind " + kind, x.tell(0, kind, 0, boxes), number ? 4 : OperaGlasses.BAD_VALUE);
            }
        }
    }

    /** "A rumour is open (0; at first), proved (1) or refuted (2)." */
    private static void openAtFirst() {
        OperaGlasses x = new OperaGlasses();
        for (int turn = 0; turn < 2; turn++) {
            x.tell(0, OperaGlasses.LOOKS, 0, 1);
            x.tell(0, OperaGlasses.LOOKS, 0, 1);
            due("open", x.rumour(0, 4), 0);
            x.prove(0, true);
            due("proved", x.rumour(0, 4), 1);
            x.prove(1, false);
            due("refuted", x.rumour(1, 4), 2);
            x.endAct();
        }
        x.tell(0, OperaGlasses.LOOKS, 0, 1);
        due("open, where one was proved before", x.rumour(0, 4), 0);
    }

    /** "It does not matter whether they hold in truth." */
    private static void worldsDoNotKnowTheTruth() {
        OperaGlasses x = new OperaGlasses();
        x.tell(0, OperaGlasses.LOOKS, 0, 1);
        x.tell(0, OperaGlasses.LOOKS, 1, 3);
        due("a true one refuted", x.prove(0, false), 54);
        due("a false one proved", x.prove(1, true), 18);
        due("the truth is not among them", x.count(4), 0);
        x.look(0, 2);
        due("looks do not matter", x.count(3), 18);
        due("nor one more", x.look(1, 3), 2);
        due("now it is", x.count(4), 1);
    }

    /** "It is a contradiction if no world is possible", and "something is certain if .. there is one." */
    private static void contradiction() {
        OperaGlasses x = Houses.contradiction();
        x.tell(0, OperaGlasses.LOOKS, 0, 1);
        x.tell(0, OperaGlasses.LOOKS, 0, 3);
        due("worlds", x.count(3), 0);
        due("the truth", x.count(4), 0);
        due("certain persons", x.count(6), 0);
        due("certain rumours", x.count(7), 0);
        due("opposites that are certain", x.count(8), 0);
        for (int p = 0; p < 4; p++) {
            due("certain(" + p + ")", x.certain(p), OperaGlasses.NONE);
            due("world(0, " + p + ")", x.world(0, p), OperaGlasses.NO_SUCH);
            for (int box = 0; box < 4; box++) {
                due("possible", x.possible(p, box), 0);
            }
        }
        due("a guess that is so was not certain", x.guess(1, 0, 1), 1005);
        due("nor is the opposite of one that is not", x.guess(2, 0, 2), 998);
        due("one to blame", x.blame(0), 0);
    }

    /** "Something is certain if it is so in all possible worlds": with one world all is. */
    private static void oneWorld() {
        for (int boxes = 3; boxes <= 6; boxes++) {
            OperaGlasses x = Houses.of(boxes);
            for (int p = 0; p < boxes; p++) {
                x.tell(0, OperaGlasses.LOOKS, p, (p + 1) % boxes);
            }
            x.reveal();
            x.tell(0, OperaGlasses.WATCHED, 0, 1);
            x.tell(0, OperaGlasses.MIRROR, 0, 1);
            x.tell(0, OperaGlasses.SAME, 0, 1);
            due("worlds", x.count(3), 1);
            due("certain persons", x.count(6), boxes);
            due("certain rumours", x.count(7), 1);
            due("opposites that are certain", x.count(8), 2);
            due("no contradiction", x.blame(0), OperaGlasses.NONE);
            due("the last looks at 0", x.certain(boxes - 1), 0);
            due("so, and certain", x.guess(0, boxes - 1, 0), 1003);
            due("not so, and certainly", x.guess(1, boxes - 1, 1), 996);
        }
    }

    /** "Acts are numbered from 0. Each person has a score, 0 at first, which goes on from act to act." */
    private static void actsAndScores() {
        OperaGlasses x = new OperaGlasses();
        due("the first act", x.count(5), 0);
        for (int p = 0; p < 4; p++) {
            due("score at first", x.person(p, 1), 1000);
        }
        x.guess(0, 1, 2);
        for (int act = 1; act <= 20; act++) {
            due("the next act", x.endAct(), act);
            due("its number", x.count(5), act);
            due("the score goes on", x.person(0, 1), 1005);
            due("as does that of another", x.person(1, 1), 1000);
        }
    }

    /** "Each person can guess once in an act": one guess of each, and then none. */
    private static void oneGuessInAnAct() {
        OperaGlasses x = Houses.of(6);
        for (int act = 0; act < 3; act++) {
            for (int p = 0; p < 6; p++) {
                due("has not guessed", x.person(p, 2), 0);
                int other = (p + 1) % 6;
                due("the first guess", x.guess(p, other, (p + 2) % 6), 1005 + 5 * act);
                due("has guessed", x.person(p, 2), 1);
            }
            for (int p = 0; p < 6; p++) {
                due("the second guess", x.guess(p, (p + 1) % 6, (p + 2) % 6), OperaGlasses.NOT_POSSIBLE);
            }
            x.endAct();
        }
    }

    /** "The pad is a text of at most 60 characters." */
    private static void sixtyCharacters() {
        for (int length = 0; length <= 60; length++) {
            for (int more = 1; more <= 8; more++) {
                OperaGlasses x = new OperaGlasses();
                Checks.type(x, "A".repeat(length));
                boolean fits = length + more <= 60;
                due(more + " behind " + length, x.put(Checks.packed("A".repeat(more))), fits ? length + more : OperaGlasses.TOO_MANY);
                due("the length", x.count(9), fits ? length + more : length);
            }
        }
    }

    private static int faultOf(String text) {
        OperaGlasses x = new OperaGlasses();
        Checks.type(x, text);
        return x.fault();
    }

    /** "Teller, a and b are digits (0 to 5; b of kind 4: 0 to 6)." */
    private static void digitsOfTexts() {
        for (char c = 33; c <= 126; c++) {
            boolean toFive = c >= '0' && c <= '5';
            boolean toSix = c >= '0' && c <= '6';
            due("teller " + c, faultOf(c + ":0*0"), toFive ? OperaGlasses.NONE : 0);
            due("a " + c, faultOf("0:" + c + "*0"), toFive ? OperaGlasses.NONE : 2);
            due("b " + c, faultOf("0:0*" + c), toFive ? OperaGlasses.NONE : 4);
            due("a of kind 4 " + c, faultOf("0:" + c + "#6"), toFive ? OperaGlasses.NONE : 2);
            due("b of kind 4 " + c, faultOf("0:0#" + c), toSix ? OperaGlasses.NONE : 4);
            due("colon " + c, faultOf("0" + c + "0*0"), c == ':' ? OperaGlasses.NONE : 1);
            due("comma " + c, faultOf("0:0*0" + c + "0:0*0"), c == ',' ? OperaGlasses.NONE : 5);
            due("the second teller " + c, faultOf("0:0*0," + c + ":0*0"), toFive ? OperaGlasses.NONE : 6);
        }
    }

    /** The signs, and "a b that is the same as a, if the kind wants unlike ones". */
    private static void signsOfTexts() {
        for (char c = 33; c <= 126; c++) {
            int kind = SIGNS.indexOf(c);
            due("sign " + c, faultOf("0:0" + c + "1"), kind >= 0 ? OperaGlasses.NONE : 3);
            for (char digit = '0'; digit <= '5' && kind >= 0; digit++) {
                boolean mayBeAlike = kind >= OperaGlasses.WATCHED;
                due("alike: " + digit + c + digit, faultOf("0:" + digit + c + digit), mayBeAlike ? OperaGlasses.NONE : 4);
                due("alike in the second", faultOf("0:0>1,0:" + digit + c + digit), mayBeAlike ? OperaGlasses.NONE : 10);
                due("as a before", faultOf("0:" + digit + "*0,0:" + (char) ('0' + '5' - digit) + c + digit), OperaGlasses.NONE);
                due("as the teller", faultOf(digit + ":" + (char) ('0' + '5' - digit) + c + digit), OperaGlasses.NONE);
                due("teller as a", faultOf(digit + ":" + digit + c + (char) ('0' + '5' - digit)), OperaGlasses.NONE);
            }
        }
    }

    /** "How many boxes there are does not matter." */
    private static void boxesDoNotMatterToTheFault() {
        for (int boxes = 3; boxes <= 6; boxes++) {
            OperaGlasses x = Houses.of(boxes);
            Checks.type(x, "5:5>4,5:4*5,5:5#6");
            due("fault in a house of " + boxes, x.fault(), OperaGlasses.NONE);
            due("tellAll() there", x.tellAll(), boxes == 6 ? 3 : OperaGlasses.NO_SUCH);
        }
    }

    /** "If there is none and the text ends too early (also if it is empty), it is the length of the text." */
    private static void faultOfWhatEndsTooEarly() {
        String text = "0:0>1,1:2#6,2:3*3,3:4=5,4:1~0,5:5/4,0:5#5,1:0#0,2:4*0,3:3>5,";
        for (int length = 0; length <= text.length(); length++) {
            boolean whole = length % 6 == 5;
            due("fault of " + length, faultOf(text.substring(0, length)), whole ? OperaGlasses.NONE : length);
            if (length < 60) {
                due("a fault behind " + length, faultOf(text.substring(0, length) + "!"), length);
            }
        }
    }
}
