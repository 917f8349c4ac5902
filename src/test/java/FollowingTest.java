/** Promises 14 to 20: what follows. */
public final class FollowingTest {
    private static final int MIN = Integer.MIN_VALUE, MAX = Integer.MAX_VALUE;
    private static final Checks checks = new Checks();

    public static void main(String[] args) {
        possible();
        certain();
        world();
        worldOfFew();
        worldOfSix();
        ifProved();
        sharpest();
        sharpestOfNone();
        blame();
        blameOfNone();
        mostWatched();
        mostWatchedOfSeveralWorlds();
        nothingChanges();
        checks.end();
    }

    private static void due(String call, long got, long want) {
        checks.due(call, got, want);
    }

    private static void possible() {
        OperaGlasses x = new OperaGlasses();
        x.tell(0, OperaGlasses.MIRROR, 0, 1);
        x.prove(0, false);
        int[] of0 = {0, 18, 27, 27};
        for (int box = 0; box < 4; box++) {
            due("possible(0, " + box + ")", x.possible(0, box), of0[box]);
            due("possible(2, " + box + ")", x.possible(2, box), box == 2 ? 0 : 24);
        }
        for (int wrong : new int[] {-1, 4, 5, MIN, MAX}) {
            due("possible(" + wrong + ", 0)", x.possible(wrong, 0), OperaGlasses.NO_SUCH);
            due("possible(0, " + wrong + ")", x.possible(0, wrong), OperaGlasses.NO_SUCH);
        }
        due("in a contradiction", Houses.contradiction().possible(0, 1), 0);
        x.open(6);
        due("of six", x.possible(5, 4), 3125);
        due("of six, the own one", x.possible(5, 5), 0);
    }

    private static void certain() {
        OperaGlasses x = new OperaGlasses();
        due("nothing is certain", x.certain(0), OperaGlasses.NONE);
        x.tell(0, OperaGlasses.LOOKS, 3, 0);
        x.tell(0, OperaGlasses.LOOKS_NOT, 2, 0);
        x.tell(0, OperaGlasses.LOOKS, 2, 3);
        x.prove(0, true);
        due("3 looks at 0", x.certain(3), 0);
        x.prove(1, true);
        due("2 may look at two", x.certain(2), OperaGlasses.NONE);
        x.prove(2, false);
        due("2 looks at 1", x.certain(2), 1);
        for (int wrong : new int[] {-1, 4, MIN, MAX}) {
            due("certain(" + wrong + ")", x.certain(wrong), OperaGlasses.NO_SUCH);
        }
        due("in a contradiction", Houses.contradiction().certain(0), OperaGlasses.NONE);
    }

    private static void world() {
        OperaGlasses x = new OperaGlasses();
        x.open(3);
        int[][] worlds = {{1, 0, 0}, {1, 0, 1}, {1, 2, 0}, {1, 2, 1}, {2, 0, 0}, {2, 0, 1}, {2, 2, 0}, {2, 2, 1}};
        for (int w = 0; w < worlds.length; w++) {
            for (int p = 0; p < 3; p++) {
                due("world(" + w + ", " + p + ")", x.world(w, p), worlds[w][p]);
            }
        }
        for (int wrong : new int[] {8, -1, MIN, MAX}) {
            due("world(" + wrong + ", 0)", x.world(wrong, 0), OperaGlasses.NO_SUCH);
        }
        for (int wrong : new int[] {3, -1, MIN, MAX}) {
            due("world(0, " + wrong + ")", x.world(0, wrong), OperaGlasses.NO_SUCH);
        }
    }

    private static void worldOfFew() {
        OperaGlasses x = new OperaGlasses();
        x.open(3);
        x.tell(0, OperaGlasses.WATCHED, 1, 2);
        x.tell(0, OperaGlasses.LOOKS, 1, 0);
        x.prove(0, true);
        due("world(0, 1)", x.world(0, 1), 0);
        due("world(1, 1)", x.world(1, 1), 2);
        due("world(2, 1)", x.world(2, 1), OperaGlasses.NO_SUCH);
        x.prove(1, false);
        due("world(0, 1) then", x.world(0, 1), 2);
        due("world(1, 1) then", x.world(1, 1), OperaGlasses.NO_SUCH);
        due("in a contradiction", Houses.contradiction().world(0, 0), OperaGlasses.NO_SUCH);
    }

    private static void worldOfSix() {
        OperaGlasses x = new OperaGlasses();
        x.open(6);
        int[] first = {1, 0, 0, 0, 0, 0};
        int[] last = {5, 5, 5, 5, 5, 4};
        int[] some = {1, 0, 0, 1, 5, 2};
        for (int p = 0; p < 6; p++) {
            due("the first world of six", x.world(0, p), first[p]);
            due("the last world of six", x.world(15624, p), last[p]);
            due("world 47 of six", x.world(47, p), some[p]);
        }
        due("none behind", x.world(15625, 0), OperaGlasses.NO_SUCH);
    }

    private static void ifProved() {
        OperaGlasses x = new OperaGlasses();
        due("LOOKS", x.ifProved(OperaGlasses.LOOKS, 0, 1), 27);
        due("LOOKS_NOT", x.ifProved(OperaGlasses.LOOKS_NOT, 0, 1), 54);
        due("MIRROR", x.ifProved(OperaGlasses.MIRROR, 0, 1), 9);
        due("SAME", x.ifProved(OperaGlasses.SAME, 0, 1), 18);
        due("WATCHED", x.ifProved(OperaGlasses.WATCHED, 2, 2), 18);
        due("WATCHED by 6", x.ifProved(OperaGlasses.WATCHED, 2, 6), 0);
        due("BEYOND", x.ifProved(OperaGlasses.BEYOND, 3, 3), 27);
        x.tell(0, OperaGlasses.LOOKS, 0, 1);
        x.prove(0, true);
        due("with what is proved", x.ifProved(OperaGlasses.MIRROR, 0, 1), 9);
        due("against what is proved", x.ifProved(OperaGlasses.LOOKS, 0, 2), 0);
        due("what is known", x.ifProved(OperaGlasses.LOOKS, 0, 1), 27);
        for (int kind = -1; kind <= 6; kind++) {
            due("a of kind " + kind, x.ifProved(kind, 4, 1), OperaGlasses.BAD_VALUE);
            due("low a of kind " + kind, x.ifProved(kind, -1, 1), OperaGlasses.BAD_VALUE);
            due("b of kind " + kind, x.ifProved(kind, 1, kind == 4 ? 7 : 4), OperaGlasses.BAD_VALUE);
            due("low b of kind " + kind, x.ifProved(kind, 1, -1), OperaGlasses.BAD_VALUE);
        }
        for (int kind : new int[] {-1, 0, 1, 2, 3, 6, MIN, MAX}) {
            due("alike, kind " + kind, x.ifProved(kind, 1, 1), OperaGlasses.BAD_VALUE);
        }
        due("in a contradiction", Houses.contradiction().ifProved(OperaGlasses.LOOKS, 3, 1), 0);
        due("it was not told", x.count(1), 1);
    }

    private static void sharpest() {
        OperaGlasses x = new OperaGlasses();
        x.tell(0, OperaGlasses.MIRROR, 0, 1);
        due("worse is 72", x.sharpest(1), 72);
        x.tell(0, OperaGlasses.LOOKS_NOT, 2, 1);
        due("worse is 54", x.sharpest(1), 54);
        due("and it is 1", x.sharpest(0), 1);
        x.tell(0, OperaGlasses.LOOKS, 3, 1);
        due("of two the lower one", x.sharpest(0), 1);
        x.tell(0, OperaGlasses.WATCHED, 0, 1);
        due("worse is 45", x.sharpest(1), 45);
        due("and it is 3", x.sharpest(0), 3);
        x.prove(3, true);
        due("only open ones", x.sharpest(0) != 3 ? 1 : 0, 1);
        x.prove(0, true);
        x.prove(1, true);
        due("the only open one", x.sharpest(0), 2);
        for (int wrong : new int[] {-1, 2, MIN, MAX}) {
            due("sharpest(" + wrong + ")", x.sharpest(wrong), OperaGlasses.BAD_VALUE);
        }
    }

    private static void sharpestOfNone() {
        OperaGlasses x = new OperaGlasses();
        due("no rumour", x.sharpest(0), OperaGlasses.NONE);
        due("no rumour, its number", x.sharpest(1), OperaGlasses.NONE);
        due("wrong comes first", x.sharpest(2), OperaGlasses.BAD_VALUE);
        OperaGlasses y = Houses.contradiction();
        due("none is open", y.sharpest(1), OperaGlasses.NONE);
        y.tell(0, OperaGlasses.LOOKS, 1, 2);
        y.tell(0, OperaGlasses.LOOKS, 1, 3);
        due("in a contradiction the lowest open one", y.sharpest(0), 2);
        due("with 0", y.sharpest(1), 0);
    }

    private static void blame() {
        OperaGlasses x = Houses.contradiction();
        due("of two alike the lower one", x.blame(0), 0);
        due("worlds then", x.blame(1), 27);
        x.tell(0, OperaGlasses.LOOKS, 1, 2);
        x.prove(2, true);
        due("one that is not to blame", x.blame(0), 0);
        due("worlds then", x.blame(1), 9);

        OperaGlasses y = new OperaGlasses();
        y.tell(0, OperaGlasses.LOOKS, 3, 1);
        y.tell(0, OperaGlasses.MIRROR, 0, 1);
        y.tell(0, OperaGlasses.LOOKS, 0, 1);
        y.prove(1, true);
        y.prove(2, false);
        due("without the mirror 54, without the look 9", y.blame(0), 1);
        due("54", y.blame(1), 54);

        OperaGlasses w = Houses.contradiction();
        w.tell(0, OperaGlasses.LOOKS, 1, 0);
        w.prove(2, true);
        w.doubt(0);
        due("open ones are not to blame", w.prove(0, false), 9);
        w.doubt(0);
        w.tell(0, OperaGlasses.LOOKS, 0, 3);
        w.prove(3, true);
        due("of those that are not open the lowest", w.blame(0), 1);
        due("worlds then", w.blame(1), 9);

        OperaGlasses z = new OperaGlasses();
        for (int box = 1; box <= 3; box++) {
            z.tell(0, OperaGlasses.LOOKS, 0, box);
            z.tell(0, OperaGlasses.LOOKS, 1, box == 1 ? 0 : box);
        }
        for (int r = 1; r < 6; r++) {
            z.prove(r, true);
        }
        due("no single one helps: the lowest that is not open", z.blame(0), 1);
        due("0 worlds", z.blame(1), 0);
        for (int wrong : new int[] {-1, 2, MIN, MAX}) {
            due("blame(" + wrong + ")", z.blame(wrong), OperaGlasses.BAD_VALUE);
        }
    }

    private static void blameOfNone() {
        OperaGlasses x = new OperaGlasses();
        due("no rumour", x.blame(0), OperaGlasses.NONE);
        due("wrong comes first", x.blame(2), OperaGlasses.BAD_VALUE);
        x.tell(0, OperaGlasses.LOOKS, 0, 1);
        x.prove(0, true);
        due("no contradiction", x.blame(0), OperaGlasses.NONE);
        due("no contradiction, its number", x.blame(1), OperaGlasses.NONE);
        x.open(3);
        for (int p = 0; p < 3; p++) {
            x.tell(0, OperaGlasses.LOOKS, p, (p + 1) % 3);
        }
        x.reveal();
        due("one world is no contradiction", x.blame(0), OperaGlasses.NONE);
    }

    private static void mostWatched() {
        OperaGlasses x = new OperaGlasses();
        due("everyone can be", x.mostWatched(0), 0);
        due("by 3", x.mostWatched(1), 3);
        x.tell(0, OperaGlasses.LOOKS, 3, 2);
        x.tell(0, OperaGlasses.LOOKS, 1, 2);
        x.tell(0, OperaGlasses.LOOKS, 0, 1);
        x.prove(0, true);
        due("2 can be", x.mostWatched(0), 2);
        due("by 3", x.mostWatched(1), 3);
        x.prove(1, true);
        x.prove(2, true);
        due("1 can be too, and is lower", x.mostWatched(0), 1);
        due("by 2", x.mostWatched(1), 2);
        for (int wrong : new int[] {-1, 2, MIN, MAX}) {
            due("mostWatched(" + wrong + ")", x.mostWatched(wrong), OperaGlasses.BAD_VALUE);
        }
        due("no world", Houses.contradiction().mostWatched(0), OperaGlasses.NONE);
        due("no world, how many", Houses.contradiction().mostWatched(1), OperaGlasses.NONE);
        due("wrong comes first", Houses.contradiction().mostWatched(2), OperaGlasses.BAD_VALUE);
        x.open(6);
        due("of six", x.mostWatched(1), 5);
    }

    /** The higher person is the most watched one in an earlier world, the lower one in a later. */
    private static void mostWatchedOfSeveralWorlds() {
        OperaGlasses x = new OperaGlasses();
        x.open(3);
        x.tell(0, OperaGlasses.WATCHED, 0, 2);
        x.tell(0, OperaGlasses.LOOKS, 0, 1);
        x.tell(0, OperaGlasses.LOOKS, 1, 2);
        x.prove(0, false);
        x.prove(1, false);
        due("worlds", x.prove(2, true), 2);
        due("2 is by 2 in both", x.mostWatched(0), 2);
        x.open(3);
        x.tell(0, OperaGlasses.SAME, 1, 2);
        x.tell(0, OperaGlasses.WATCHED, 0, 2);
        x.tell(0, OperaGlasses.WATCHED, 2, 2);
        x.tell(0, OperaGlasses.LOOKS, 2, 1);
        x.prove(1, false);
        due("2 by 2 in one world, 1 by 2 in others", x.mostWatched(0), 1);
        due("by 2", x.mostWatched(1), 2);
        x.prove(3, false);
        due("0 is ruled out, and 1", x.mostWatched(0), 2);
    }

    private static void nothingChanges() {
        OperaGlasses x = new OperaGlasses();
        x.tell(0, OperaGlasses.LOOKS, 0, 1);
        x.possible(0, 1);
        x.certain(0);
        x.world(5, 2);
        x.ifProved(OperaGlasses.LOOKS, 0, 2);
        x.sharpest(0);
        x.blame(0);
        x.mostWatched(0);
        due("no change", x.count(10), 1);
        due("rumours", x.count(1), 1);
        due("worlds", x.count(3), 81);
        due("worlds of the rumour", x.rumour(0, 6), 27);
    }
}
