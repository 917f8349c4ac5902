import java.util.ArrayList;
import java.util.List;
import java.util.function.Supplier;

/** What can be seen of an object, as texts, so that two objects can be held against each other. */
final class Seen {
    private static final int MOST_CHANGES = 6;
    /** What makes a pad without a fault whole, by how many characters of its last rumour stand already. */
    private static final String[] ENDS = {"0:0*0", ":0*0", "0*0", "*0", "0", ""};

    /** All that undo() and restore() bring back; it takes 226 calls at most, of the 512 that an object has. */
    static String house(OperaGlasses x) {
        StringBuilder text = new StringBuilder();
        int boxes = x.count(0);
        int told = x.count(1);
        for (int what = 0; what <= 8; what++) {
            say(text, x.count(what));
        }
        for (int p = 0; p < boxes; p++) {
            for (int what = 0; what < 6; what++) {
                say(text, x.person(p, what));
            }
            for (int box = 0; box < boxes; box++) {
                say(text, x.possible(p, box));
            }
        }
        for (int r = 0; r < told; r++) {
            for (int what = 0; what < 7; what++) {
                say(text, x.rumour(r, what));
            }
        }
        say(text, x.sharpest(0));
        say(text, x.blame(0));
        say(text, x.mostWatched(0));
        return text.toString();
    }

    /** All that can be seen of objects that are made by the same calls: the house, the pad, the history, the slots. */
    static List<String> all(Supplier<OperaGlasses> made) {
        List<String> views = new ArrayList<>();
        views.add("house: " + house(made.get()));
        views.add("pad: " + pad(made.get()));
        for (int undone = 1; undone <= MOST_CHANGES + 1; undone++) {
            views.add("after " + undone + " undo(): " + past(made.get(), undone));
        }
        for (int slot = 0; slot < 2; slot++) {
            OperaGlasses x = made.get();
            views.add("slot " + slot + ": " + x.restore(slot) + ", " + house(x));
        }
        return views;
    }

    private static String past(OperaGlasses x, int undone) {
        StringBuilder text = new StringBuilder();
        say(text, x.count(10));
        for (int i = 0; i < undone; i++) {
            say(text, x.undo());
        }
        return text.append(house(x)).toString();
    }

    /** The characters can be seen when they are told, in a house with room for all of them. */
    private static String pad(OperaGlasses x) {
        StringBuilder text = new StringBuilder();
        say(text, x.count(9));
        say(text, x.fault());
        Checks.type(x, ENDS[x.count(9) % ENDS.length]);
        say(text, x.fault());
        x.open(6);
        say(text, x.tellAll());
        return text.append(house(x)).toString();
    }

    private static void say(StringBuilder text, int number) {
        text.append(number).append(' ');
    }
}
