/** Long runs of calls, the same ones every time, on the class and on the plain model side by side. */
public final class ModelRunsTest {
    private static final int RUNS = 240, CALLS = 512;
    private static final String SIGNS = ">/=~#*";

    private final Checks checks;
    private final int run;
    private final OperaGlasses house = new OperaGlasses();
    private final PlainModel model = new PlainModel();
    private long seed;

    private ModelRunsTest(Checks checks, int run) {
        this.checks = checks;
        this.run = run;
        this.seed = run * 7919L + 17;
    }

    public static void main(String[] args) {
        Checks checks = new Checks();
        for (int run = 0; run < RUNS; run++) {
            new ModelRunsTest(checks, run).play();
        }
        checks.end();
    }

    /** A number from 0 to below - 1, from a row of numbers that the run alone decides. */
    private int pick(int below) {
        seed = seed * 6364136223846793005L + 1442695040888963407L;
        return (int) ((seed >>> 33) % below);
    }

    private void due(String call, int got, int want) {
        checks.due("run " + run + ": " + call, got, want);
    }

    private void play() {
        // The greatest house is rare, as the model takes its time over 15,625 worlds.
        int boxes = run % 12 == 0 ? 6 : 3 + run % 3;
        due("open", house.open(boxes), model.open(boxes));
        for (int i = 0; i < CALLS - 1; i++) {
            if (run % 2 == 0 && i == 40) {
                fillUp();
            }
            next();
        }
    }

    /** Some runs stay at the limit of 20 rumours for a while. */
    private void fillUp() {
        for (int i = 0; i < 20; i++) {
            tell();
        }
    }

    private void next() {
        int which = pick(100);
        if (which < 34) {
            change(which);
        } else if (which < 44) {
            text();
        } else if (which < 49) {
            saving();
        } else {
            question(which);
        }
    }

    /** A person or a box, at times one that is not there. */
    private int box() {
        int oddly = pick(60);
        return oddly == 0 ? -1 : oddly == 1 ? model.count(0) : oddly == 2 ? Integer.MIN_VALUE : pick(model.count(0));
    }

    private int what(int below) {
        return pick(25) == 0 ? below - pick(2) * (below + 1) : pick(below);
    }

    private int told() {
        return pick(15) == 0 ? pick(23) - 1 : pick(Math.max(1, model.count(1)));
    }

    private void tell() {
        int teller = box(), kind = what(6), a = box();
        int b = kind == 4 ? pick(pick(8) == 0 ? 9 : 3) : box();
        due("tell(" + teller + ", " + kind + ", " + a + ", " + b + ")",
            house.tell(teller, kind, a, b), model.tell(teller, kind, a, b));
    }

    private void change(int which) {
        int p = box(), q = box(), r = told();
        if (which < 1 && pick(3) == 0) {
            int boxes = pick(run % 12 == 0 ? 5 : 4) + 2;
            due("open(" + boxes + ")", house.open(boxes), model.open(boxes));
        } else if (which < 5) {
            due("look(" + p + ", " + q + ")", house.look(p, q), model.look(p, q));
        } else if (which < 17) {
            tell();
        } else if (which < 23) {
            boolean isSo = pick(3) > 0 ? model.rumour(r, 5) == 1 : pick(2) == 0;
            due("prove(" + r + ", " + isSo + ")", house.prove(r, isSo), model.prove(r, isSo));
        } else if (which < 24) {
            due("reveal()", house.reveal(), model.reveal());
        } else if (which < 28) {
            due("doubt(" + r + ")", house.doubt(r), model.doubt(r));
        } else if (which < 32) {
            int box = pick(2) == 0 ? model.person(q, 0) : box();
            due("guess(" + p + ", " + q + ", " + box + ")", house.guess(p, q, box), model.guess(p, q, box));
        } else if (which < 33) {
            due("tellAll()", house.tellAll(), model.tellAll());
        } else if (pick(3) == 0) {
            due("endAct()", house.endAct(), model.endAct());
        }
    }

    private void text() {
        int which = pick(10);
        if (which < 5) {
            String text = someText();
            for (int i = 0; i < text.length(); i += 8) {
                put(Checks.packed(text.substring(i, Math.min(i + 8, text.length()))));
            }
            due("tellAll()", house.tellAll(), model.tellAll());
        } else if (which < 6) {
            put(((long) pick(Integer.MAX_VALUE) << 32 | pick(Integer.MAX_VALUE)) >>> 8 * pick(8));
        } else if (which < 8) {
            due("wipe()", house.wipe(), model.wipe());
        }
        due("fault()", house.fault(), model.fault());
    }

    private void put(long characters) {
        due("put(" + characters + ")", house.put(characters), model.put(characters));
    }

    private String someText() {
        StringBuilder text = new StringBuilder(model.count(9) > 0 ? "," : "");
        int most = model.count(0) - (pick(10) == 0 ? 0 : 1);
        for (int left = 1 + pick(pick(6) == 0 ? 10 : 3); left > 0; left--) {
            int kind = pick(6), a = pick(most + 1), b = pick(most + 1);
            b = kind < 4 && a == b && pick(20) > 0 ? (a + 1) % (most + 1) : b;
            text.append(pick(most + 1)).append(':').append(a).append(SIGNS.charAt(kind)).append(b).append(left > 1 ? "," : "");
        }
        if (pick(4) == 0) {
            text.setCharAt(pick(text.length()), (char) (33 + pick(94)));
        }
        return text.toString();
    }

    private void saving() {
        int slot = what(2);
        switch (pick(4)) {
            case 0 -> due("save(" + slot + ")", house.save(slot), model.save(slot));
            case 1 -> due("restore(" + slot + ")", house.restore(slot), model.restore(slot));
            default -> due("undo()", house.undo(), model.undo());
        }
    }

    private void question(int which) {
        int p = box(), q = box(), r = told();
        if (which < 55) {
            int what = what(6);
            due("person(" + p + ", " + what + ")", house.person(p, what), model.person(p, what));
        } else if (which < 63) {
            int what = what(7);
            due("rumour(" + r + ", " + what + ")", house.rumour(r, what), model.rumour(r, what));
        } else if (which < 74) {
            int what = what(11);
            due("count(" + what + ")", house.count(what), model.count(what));
        } else if (which < 78) {
            due("possible(" + p + ", " + q + ")", house.possible(p, q), model.possible(p, q));
        } else if (which < 82) {
            due("certain(" + p + ")", house.certain(p), model.certain(p));
        } else if (which < 86) {
            int world = pick(Math.max(1, model.count(3))) + pick(2);
            due("world(" + world + ", " + p + ")", house.world(world, p), model.world(world, p));
        } else if (which < 90) {
            int kind = what(6);
            due("ifProved(" + kind + ", " + p + ", " + q + ")", house.ifProved(kind, p, q), model.ifProved(kind, p, q));
        } else {
            best(which, what(2));
        }
    }

    private void best(int which, int what) {
        if (which < 94) {
            due("sharpest(" + what + ")", house.sharpest(what), model.sharpest(what));
        } else if (which < 97) {
            due("blame(" + what + ")", house.blame(what), model.blame(what));
        } else {
            due("mostWatched(" + what + ")", house.mostWatched(what), model.mostWatched(what));
        }
    }
}
