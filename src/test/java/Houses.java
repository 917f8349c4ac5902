/** Houses that several tests begin with. */
final class Houses {
    static OperaGlasses of(int boxes) {
        OperaGlasses x = new OperaGlasses();
        x.open(boxes);
        return x;
    }

    /** A house of 4 in which 0 looks at 1 and also at 2, and both are proved. */
    static OperaGlasses contradiction() {
        OperaGlasses x = new OperaGlasses();
        x.tell(0, OperaGlasses.LOOKS, 0, 1);
        x.tell(0, OperaGlasses.LOOKS, 0, 2);
        x.prove(0, true);
        x.prove(1, true);
        return x;
    }

    /** A house in the act 1 with an open and a refuted rumour, a guess, and a pad of 11 characters. */
    static OperaGlasses lively() {
        OperaGlasses x = new OperaGlasses();
        x.tell(0, OperaGlasses.LOOKS, 0, 1);
        x.endAct();
        x.tell(0, OperaGlasses.LOOKS, 0, 1);
        x.tell(1, OperaGlasses.MIRROR, 2, 1);
        x.tell(2, OperaGlasses.SAME, 2, 1);
        x.prove(1, false);
        x.guess(3, 1, 2);
        x.look(2, 0);
        Checks.type(x, "0:0>1,3:3*3");
        return x;
    }

    /** As many rumours as there can be: 20, all open, no two alike, told by all four. */
    static OperaGlasses full() {
        OperaGlasses x = new OperaGlasses();
        tellTimes(x, 20);
        return x;
    }

    /** Tells up to 20 rumours that are not alike. */
    static void tellTimes(OperaGlasses x, int times) {
        for (int i = 0; i < times; i++) {
            if (i < 16) {
                x.tell(i % 4, OperaGlasses.BEYOND, i / 4, i % 4);
            } else {
                x.tell(i % 4, OperaGlasses.WATCHED, i % 4, 1);
            }
        }
    }
}
