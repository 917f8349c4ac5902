import java.util.ArrayList;
import java.util.List;
import java.util.function.Supplier;
import java.util.function.ToIntFunction;

/**
 * Calls that are refused: the error that is named first is the answer, and nothing changes of what can be seen, the
 * house, the pad, the history and the slots. Each state is made anew for each view, as looking takes calls.
 */
public final class RefusalsTest {
    private static final int MIN = Integer.MIN_VALUE, MAX = Integer.MAX_VALUE;
    private static final int NO_SUCH = OperaGlasses.NO_SUCH, BAD_VALUE = OperaGlasses.BAD_VALUE;
    private static final int BAD_TEXT = OperaGlasses.BAD_TEXT, TOO_MANY = OperaGlasses.TOO_MANY;
    private static final int NOT_POSSIBLE = OperaGlasses.NOT_POSSIBLE;
    private static final int[] NO_PLACES = {MIN, -1, 4, 5, MAX};
    private static final int[] NO_KINDS = {MIN, -1, 6, MAX};
    private static final int[] NO_SLOTS = {MIN, -1, 2, MAX};
    private static final Checks checks = new Checks();

    /** A way to make a house, and what can be seen of it when nothing more is called. */
    private static final class Start {
        private final String name;
        private final Supplier<OperaGlasses> made;
        private final List<String> seen;

        Start(String name, Supplier<OperaGlasses> made) {
            this.name = name;
            this.made = made;
            this.seen = Seen.all(made);
        }

        void refuses(String call, ToIntFunction<OperaGlasses> refused, int error) {
            List<Integer> answers = new ArrayList<>();
            List<String> then = Seen.all(() -> {
                OperaGlasses x = made.get();
                answers.add(refused.applyAsInt(x));
                return x;
            });
            checks.due(name + ": " + call, answers.get(0), error);
            for (int i = 0; i < seen.size(); i++) {
                boolean same = then.get(i).equals(seen.get(i));
                checks.due(name + ": " + call + " has changed " + seen.get(i) + " to " + then.get(i), same ? 0 : 1, 0);
            }
        }
    }

    public static void main(String[] args) {
        Start[] starts = {
            new Start("a new one", OperaGlasses::new),
            new Start("a lively one", RefusalsTest::saved),
            new Start("a full one", RefusalsTest::full),
            new Start("a contradiction", Houses::contradiction),
        };
        for (Start start : starts) {
            open(start);
            look(start);
            tell(start);
            proveAndDoubt(start);
            guess(start);
            put(start);
            slots(start);
        }
        tellOneTooMany(starts[2]);
        tellAllRefused(starts[0]);
        tellAllTooMany();
        closedAndOpen(starts[1], starts[3]);
        guessTwice(starts[1]);
        putTooMany(starts[2]);
        nothingToUndo(starts[0]);
        nothingSaved(starts[0], starts[3]);
        questions(starts);
        checks.end();
    }

    private static OperaGlasses saved() {
        OperaGlasses x = Houses.lively();
        x.save(0);
        x.look(1, 3);
        x.save(1);
        x.look(1, 0);
        return x;
    }

    /** 20 rumours, 60 characters, 6 states to go back to, both slots. */
    private static OperaGlasses full() {
        OperaGlasses x = Houses.full();
        x.save(0);
        x.prove(3, true);
        x.save(1);
        Checks.type(x, "0:0>1,0:0>2,0:0>3,1:0>1,1:0>2,1:0>3,2:0>1,2:0>2,2:0>3,3:0>1,");
        return x;
    }

    private static void open(Start start) {
        for (int boxes : new int[] {MIN, -1, 0, 1, 2, 7, 8, MAX}) {
            start.refuses("open(" + boxes + ")", x -> x.open(boxes), BAD_VALUE);
        }
    }

    private static void look(Start start) {
        for (int no : NO_PLACES) {
            start.refuses("look(" + no + ", 0)", x -> x.look(no, 0), NO_SUCH);
            start.refuses("look(3, " + no + ")", x -> x.look(3, no), NO_SUCH);
            start.refuses("look(no, no), " + no, x -> x.look(no, no), NO_SUCH);
        }
        for (int p = 0; p < 4; p++) {
            int own = p;
            start.refuses("look at the own one, " + own, x -> x.look(own, own), BAD_VALUE);
        }
    }

    private static void tell(Start start) {
        for (int no : NO_PLACES) {
            start.refuses("tell by " + no, x -> x.tell(no, OperaGlasses.LOOKS, 0, 1), NO_SUCH);
            start.refuses("tell by " + no + ", of no kind", x -> x.tell(no, 6, 0, 1), NO_SUCH);
            start.refuses("tell by " + no + ", of the same", x -> x.tell(no, OperaGlasses.SAME, 1, 1), NO_SUCH);
            for (int k = 0; k <= 5; k++) {
                int kind = k;
                start.refuses("a is " + no + " of kind " + kind, x -> x.tell(0, kind, no, 1), BAD_VALUE);
            }
            for (int kind : new int[] {0, 1, 2, 3, 5}) {
                start.refuses("b is " + no + " of kind " + kind, x -> x.tell(0, kind, 1, no), BAD_VALUE);
                start.refuses("a and b are " + no + " of kind " + kind, x -> x.tell(0, kind, no, no), BAD_VALUE);
            }
        }
        for (int kind : NO_KINDS) {
            start.refuses("kind " + kind, x -> x.tell(0, kind, 0, 1), BAD_VALUE);
        }
        for (int k = 0; k <= 3; k++) {
            int kind = k;
            start.refuses("a and b alike of kind " + kind, x -> x.tell(3, kind, 2, 2), BAD_VALUE);
        }
        for (int b : new int[] {MIN, -1, 7, MAX}) {
            start.refuses("just " + b + " persons", x -> x.tell(0, OperaGlasses.WATCHED, 0, b), BAD_VALUE);
        }
    }

    private static void tellOneTooMany(Start full) {
        for (int k = 0; k <= 5; k++) {
            int kind = k;
            full.refuses("the 21st, of kind " + kind, x -> x.tell(0, kind, 0, 1), TOO_MANY);
        }
    }

    private static void tellAllRefused(Start empty) {
        empty.refuses("tellAll() of an empty pad", OperaGlasses::tellAll, BAD_TEXT);
        tellAllOf("0:0>1,", BAD_TEXT);
        tellAllOf("0:0>0", BAD_TEXT);
        tellAllOf("5:5>5", BAD_TEXT);
        tellAllOf("5:5>4,x", BAD_TEXT);
        tellAllOf("4:0>1", NO_SUCH);
        tellAllOf("5:0>1", NO_SUCH);
        tellAllOf("0:0>1,1:1>2,4:0>1", NO_SUCH);
        tellAllOf("4:4>5", NO_SUCH);
        tellAllOf("0:0>4,4:0>1", NO_SUCH);
        tellAllOf("0:4>0", BAD_VALUE);
        tellAllOf("0:0>4", BAD_VALUE);
        tellAllOf("0:5*5", BAD_VALUE);
        tellAllOf("0:4#1", BAD_VALUE);
        tellAllOf("0:0>1,1:1>2,0:0/5", BAD_VALUE);
    }

    private static void tellAllOf(String text, int error) {
        new Start("a pad of " + text, () -> {
            OperaGlasses x = new OperaGlasses();
            x.tell(0, OperaGlasses.LOOKS, 0, 1);
            x.save(1);
            x.look(0, 2);
            Checks.type(x, text);
            return x;
        }).refuses("tellAll()", OperaGlasses::tellAll, error);
    }

    /** The errors that are named before it come before it, too. */
    private static void tellAllTooMany() {
        tellAllAfter(20, "0:0>1", TOO_MANY);
        tellAllAfter(19, "0:0>1,0:0>2", TOO_MANY);
        tellAllAfter(11, "0:0>1,0:0>2,0:0>3,1:0>1,1:0>2,1:0>3,2:0>1,2:0>2,2:0>3,3:0>1", TOO_MANY);
        tellAllAfter(20, "", BAD_TEXT);
        tellAllAfter(20, "0:0>1,0:0>", BAD_TEXT);
        tellAllAfter(20, "4:0>4", NO_SUCH);
        tellAllAfter(20, "0:0>4", BAD_VALUE);
    }

    private static void tellAllAfter(int told, String text, int error) {
        new Start(told + " rumours, and a pad of " + text, () -> {
            OperaGlasses x = new OperaGlasses();
            Houses.tellTimes(x, told);
            x.save(0);
            Checks.type(x, text);
            return x;
        }).refuses("tellAll()", OperaGlasses::tellAll, error);
    }

    private static void proveAndDoubt(Start start) {
        int behind = start.made.get().count(1);
        for (int no : new int[] {MIN, -1, behind, behind + 1, 20, 21, MAX}) {
            start.refuses("prove(" + no + ", true)", x -> x.prove(no, true), NO_SUCH);
            start.refuses("prove(" + no + ", false)", x -> x.prove(no, false), NO_SUCH);
            start.refuses("doubt(" + no + ")", x -> x.doubt(no), NO_SUCH);
        }
    }

    private static void closedAndOpen(Start lively, Start contradiction) {
        lively.refuses("doubt of an open one", x -> x.doubt(0), NOT_POSSIBLE);
        lively.refuses("proof of a refuted one", x -> x.prove(1, true), NOT_POSSIBLE);
        lively.refuses("refutation of a refuted one", x -> x.prove(1, false), NOT_POSSIBLE);
        contradiction.refuses("proof of a proved one", x -> x.prove(1, true), NOT_POSSIBLE);
        contradiction.refuses("refutation of a proved one", x -> x.prove(1, false), NOT_POSSIBLE);
    }

    /** In the lively house 3 has guessed: what is no such, and what is bad, comes before that. */
    private static void guess(Start start) {
        for (int no : NO_PLACES) {
            start.refuses("guess by " + no, x -> x.guess(no, 0, 1), NO_SUCH);
            start.refuses("guess of " + no, x -> x.guess(3, no, 1), NO_SUCH);
            start.refuses("guess at " + no, x -> x.guess(3, 1, no), NO_SUCH);
            start.refuses("guess of oneself at " + no, x -> x.guess(3, 3, no), NO_SUCH);
            start.refuses("guess by and of " + no, x -> x.guess(no, no, 1), NO_SUCH);
            start.refuses("guess of and at " + no, x -> x.guess(3, no, no), NO_SUCH);
        }
        for (int p = 0; p < 4; p++) {
            int same = p;
            int other = (p + 1) % 4;
            start.refuses("guess of oneself, " + same, x -> x.guess(same, same, other), BAD_VALUE);
            start.refuses("guess at the own one of " + same, x -> x.guess(other, same, same), BAD_VALUE);
            start.refuses("guess all the same, " + same, x -> x.guess(same, same, same), BAD_VALUE);
        }
    }

    private static void guessTwice(Start lively) {
        lively.refuses("a second guess, that is so", x -> x.guess(3, 0, 1), NOT_POSSIBLE);
        lively.refuses("a second guess, that is not so", x -> x.guess(3, 2, 1), NOT_POSSIBLE);
    }

    private static void put(Start start) {
        long[] wrong = {0L, 32L, 127L, 255L, 0x100L, 0x2041L, 0x4120L, 0x417FL, 0x410041L, -1L, Long.MIN_VALUE, Long.MAX_VALUE,
            0x4100000000000041L, 0x2041414141414141L, 0x7F41414141414141L, 0x8041414141414141L, 0x0041004141414141L};
        for (long characters : wrong) {
            start.refuses("put(" + Long.toHexString(characters) + ")", x -> x.put(characters), BAD_VALUE);
        }
    }

    private static void putTooMany(Start full) {
        full.refuses("the 61st character", x -> x.put('0'), TOO_MANY);
        full.refuses("8 more", x -> x.put(Checks.packed("00000000")), TOO_MANY);
        full.refuses("no character", x -> x.put(0), BAD_VALUE);
        full.refuses("8 more with a wrong one", x -> x.put(Checks.packed("0000 000")), BAD_VALUE);
        for (int more = 1; more <= 8; more++) {
            String text = "00000000".substring(8 - more);
            new Start("a pad with room for " + (more - 1), () -> {
                OperaGlasses x = new OperaGlasses();
                Checks.type(x, "0:0>1,0:0>2,0:0>3,1:0>1,1:0>2,1:0>3,2:0>1,2:0>2,2:0>3,3:0>1,".substring(0, 61 - text.length()));
                return x;
            }).refuses("put of " + text, x -> x.put(Checks.packed(text)), TOO_MANY);
        }
    }

    private static void slots(Start start) {
        for (int no : NO_SLOTS) {
            start.refuses("save(" + no + ")", x -> x.save(no), BAD_VALUE);
            start.refuses("restore(" + no + ")", x -> x.restore(no), BAD_VALUE);
        }
    }

    private static void nothingToUndo(Start empty) {
        empty.refuses("undo() of nothing", OperaGlasses::undo, NOT_POSSIBLE);
        new Start("six changes undone", () -> {
            OperaGlasses x = Houses.lively();
            x.save(0);
            for (int i = 0; i < 6; i++) {
                x.undo();
            }
            Checks.type(x, ",1:");
            return x;
        }).refuses("a seventh undo()", OperaGlasses::undo, NOT_POSSIBLE);
    }

    private static void nothingSaved(Start... withEmptySlots) {
        for (Start start : withEmptySlots) {
            start.refuses("restore(0) of nothing", x -> x.restore(0), NOT_POSSIBLE);
            start.refuses("restore(1) of nothing", x -> x.restore(1), NOT_POSSIBLE);
        }
    }

    private static void questions(Start... starts) {
        for (Start start : starts) {
            askedOfNoOne(start);
            askedForNothing(start);
        }
    }

    private static void askedOfNoOne(Start start) {
        int behind = start.made.get().count(1);
        for (int no : NO_PLACES) {
            start.refuses("person(" + no + ", 0)", x -> x.person(no, 0), NO_SUCH);
            start.refuses("person(" + no + ", 6)", x -> x.person(no, 6), NO_SUCH);
            start.refuses("possible(" + no + ", 0)", x -> x.possible(no, 0), NO_SUCH);
            start.refuses("possible(0, " + no + ")", x -> x.possible(0, no), NO_SUCH);
            start.refuses("certain(" + no + ")", x -> x.certain(no), NO_SUCH);
            start.refuses("world(0, " + no + ")", x -> x.world(0, no), NO_SUCH);
            start.refuses("ifProved(0, " + no + ", 1)", x -> x.ifProved(0, no, 1), BAD_VALUE);
        }
        for (int no : new int[] {MIN, -1, behind, 20, MAX}) {
            start.refuses("rumour(" + no + ", 0)", x -> x.rumour(no, 0), NO_SUCH);
            start.refuses("rumour(" + no + ", 7)", x -> x.rumour(no, 7), NO_SUCH);
        }
        for (int no : new int[] {MIN, -1, 82, MAX}) {
            start.refuses("world(" + no + ", 0)", x -> x.world(no, 0), NO_SUCH);
        }
    }

    private static void askedForNothing(Start start) {
        for (int no : new int[] {MIN, -1, 11, MAX}) {
            start.refuses("person(0, " + no + ")", x -> x.person(0, no), BAD_VALUE);
            start.refuses("count(" + no + ")", x -> x.count(no), BAD_VALUE);
            start.refuses("sharpest(" + no + ")", x -> x.sharpest(no), BAD_VALUE);
            start.refuses("blame(" + no + ")", x -> x.blame(no), BAD_VALUE);
            start.refuses("mostWatched(" + no + ")", x -> x.mostWatched(no), BAD_VALUE);
            start.refuses("ifProved(" + no + ", 0, 1)", x -> x.ifProved(no, 0, 1), BAD_VALUE);
        }
        if (start.made.get().count(1) > 0) {
            start.refuses("rumour(0, 7)", x -> x.rumour(0, 7), BAD_VALUE);
        }
    }
}
