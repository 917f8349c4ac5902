/** Long runs of calls, the same ones every time, on the class and on the plain model side by side. */
public final class ModelRunsTest {
    private static final int RUNS = 300;
    /** The calls that one step can take: a text of 60 characters is put in 8, told, and looked at. */
    private static final int LONGEST_STEP = 10;
    private static final int FULL_AT = 430;
    private static final String SIGNS = ">/=~#*";

    private final int run;
    private final Both both;
    private final PlainModel model;
    private long seed;

    private ModelRunsTest(Checks checks, int run) {
        this.run = run;
        this.both = new Both(checks, "run " + run);
        this.model = both.model();
        this.seed = run * 7919L + 17;
    }

    public static void main(String[] args) {
        Checks checks = new Checks();
        for (int run = 0; run < RUNS; run++) {
            new ModelRunsTest(checks, run).play();
        }
        checks.end();
    }

    /** A number from 0 to below - 1, from a row of numbers that the run alone decides. */
    private int pick(int below) {
        seed = seed * 6364136223846793005L + 1442695040888963407L;
        return (int) ((seed >>> 33) % below);
    }

    private void play() {
        // The greatest house is rare, as the model takes its time over 15,625 worlds.
        both.open(run % 12 == 0 ? 6 : 3 + run % 3);
        boolean filled = run % 2 == 1;
        while (both.left() >= LONGEST_STEP) {
            if (!filled && both.left() < FULL_AT) {
                fillUp();
                filled = true;
            }
            step();
        }
        while (both.left() > 0) {
            question(pick(51) + 49);
        }
    }

    /** Some runs stay at the limit of 20 rumours for a while. */
    private void fillUp() {
        for (int i = 0; i < 20; i++) {
            tell();
        }
    }

    private void step() {
        int which = pick(100);
        if (which < 34) {
            change(which);
        } else if (which < 44) {
            text();
        } else if (which < 49) {
            saving();
        } else {
            question(which);
        }
    }

    /** A person or a box, at times one that is not there. */
    private int box() {
        int oddly = pick(60);
        return oddly == 0 ? -1 : oddly == 1 ? model.count(0) : oddly == 2 ? Integer.MIN_VALUE : pick(model.count(0));
    }

    private int what(int below) {
        return pick(25) == 0 ? below - pick(2) * (below + 1) : pick(below);
    }

    private int told() {
        return pick(15) == 0 ? pick(23) - 1 : pick(Math.max(1, model.count(1)));
    }

    private void tell() {
        int teller = box(), kind = what(6), a = box();
        int b = kind == 4 ? pick(pick(8) == 0 ? 9 : 3) : box();
        both.tell(teller, kind, a, b);
    }

    private void change(int which) {
        int p = box(), q = box(), r = told();
        if (which < 1 && pick(3) == 0) {
            both.open(pick(run % 12 == 0 ? 5 : 4) + 2);
        } else if (which < 5) {
            both.look(p, q);
        } else if (which < 17) {
            tell();
        } else if (which < 23) {
            both.prove(r, pick(3) > 0 ? model.rumour(r, 5) == 1 : pick(2) == 0);
        } else if (which < 24) {
            both.reveal();
        } else if (which < 28) {
            both.doubt(r);
        } else if (which < 32) {
            both.guess(p, q, pick(2) == 0 ? model.person(q, 0) : box());
        } else if (which < 33) {
            both.tellAll();
        } else if (pick(3) == 0) {
            both.endAct();
        }
    }

    private void text() {
        int which = pick(10);
        if (which < 5) {
            both.type(someText());
            both.tellAll();
        } else if (which < 6) {
            both.put(((long) pick(Integer.MAX_VALUE) << 32 | pick(Integer.MAX_VALUE)) >>> 8 * pick(8));
        } else if (which < 8) {
            both.wipe();
        }
        both.fault();
    }

    private String someText() {
        StringBuilder text = new StringBuilder(model.count(9) > 0 ? "," : "");
        int most = model.count(0) - (pick(10) == 0 ? 0 : 1);
        for (int left = 1 + pick(pick(6) == 0 ? 10 : 3); left > 0; left--) {
            int kind = pick(6), a = pick(most + 1), b = pick(most + 1);
            b = kind < 4 && a == b && pick(20) > 0 ? (a + 1) % (most + 1) : b;
            text.append(pick(most + 1)).append(':').append(a).append(SIGNS.charAt(kind)).append(b).append(left > 1 ? "," : "");
        }
        if (pick(4) == 0) {
            text.setCharAt(pick(text.length()), (char) (33 + pick(94)));
        }
        return text.toString();
    }

    private void saving() {
        int slot = what(2);
        switch (pick(4)) {
            case 0 -> both.save(slot);
            case 1 -> both.restore(slot);
            default -> both.undo();
        }
    }

    private void question(int which) {
        int p = box(), q = box(), r = told();
        if (which < 55) {
            both.person(p, what(6));
        } else if (which < 63) {
            both.rumour(r, what(7));
        } else if (which < 74) {
            both.count(what(11));
        } else if (which < 78) {
            both.possible(p, q);
        } else if (which < 82) {
            both.certain(p);
        } else if (which < 86) {
            both.world(pick(Math.max(1, model.count(3))) + pick(2), p);
        } else if (which < 90) {
            both.ifProved(what(6), p, q);
        } else {
            best(which, what(2));
        }
    }

    private void best(int which, int what) {
        if (which < 94) {
            both.sharpest(what);
        } else if (which < 97) {
            both.blame(what);
        } else {
            both.mostWatched(what);
        }
    }
}
