import java.util.ArrayList;
import java.util.Arrays;
import java.util.List;
import java.util.function.Predicate;
import java.util.regex.Matcher;
import java.util.regex.Pattern;

/** The document once more, as plainly as it goes and without a thought of speed, to hold the class against. */
final class PlainModel {
    private record Told(int teller, int kind, int a, int b, int status) {
        boolean holds(int[] world) {
            return switch (kind) {
                case 0 -> world[a] == b;
                case 1 -> world[a] != b;
                case 2 -> world[a] == b && world[b] == a;
                case 3 -> world[a] == world[b];
                case 4 -> Arrays.stream(world).filter(box -> box == a).count() == b;
                default -> world[world[a]] == b;
            };
        }

        boolean fits(int[] world) {
            return status == 0 || holds(world) == (status == 1);
        }

        Told with(int newStatus) {
            return new Told(teller, kind, a, b, newStatus);
        }
    }

    private record State(int act, int[] looks, int[] scores, boolean[] guessed, List<Told> told) {
        State copy() {
            return new State(act, looks.clone(), scores.clone(), guessed.clone(), new ArrayList<>(told));
        }
    }

    private static final Pattern TEXT = text();
    private static final List<List<int[]>> WORLDS = new ArrayList<>();

    private State now = fresh(4);
    private final List<State> history = new ArrayList<>();
    private final State[] slots = new State[2];
    private String pad = "";

    /** All that can be on the pad; every character is said, so that a matcher knows where it must stop. */
    private static Pattern text() {
        StringBuilder one = new StringBuilder("[0-5]:(?:[0-5]#[0-6]|[0-5]\\*[0-5]");
        for (int a = 0; a <= 5; a++) {
            one.append('|').append(a).append("[>/=~][").append("012345".replace("" + a, "")).append(']');
        }
        one.append(')');
        return Pattern.compile(one + "(?:," + one + ")*");
    }

    private static List<int[]> allWorlds(int boxes) {
        while (WORLDS.size() <= boxes) {
            List<int[]> worlds = new ArrayList<>();
            collect(new int[WORLDS.size()], 0, worlds);
            WORLDS.add(worlds);
        }
        return WORLDS.get(boxes);
    }

    private static void collect(int[] world, int person, List<int[]> worlds) {
        if (person == world.length) {
            worlds.add(world.clone());
            return;
        }
        for (int box = 0; box < world.length; box++) {
            if (box != person) {
                world[person] = box;
                collect(world, person + 1, worlds);
            }
        }
    }

    private static State fresh(int boxes) {
        int[] looks = new int[boxes];
        for (int p = 0; p < boxes; p++) {
            looks[p] = (p + 1) % boxes;
        }
        return new State(0, looks, new int[boxes], new boolean[boxes], new ArrayList<>());
    }

    private int boxes() {
        return now.looks.length;
    }

    private boolean isBox(int box) {
        return box >= 0 && box < boxes();
    }

    private boolean isRumour(int rumour) {
        return rumour >= 0 && rumour < now.told.size();
    }

    private boolean suits(int kind, int a, int b) {
        return switch (kind) {
            case 0, 1, 2, 3 -> isBox(a) && isBox(b) && a != b;
            case 4 -> isBox(a) && b >= 0 && b <= 6;
            case 5 -> isBox(a) && isBox(b);
            default -> false;
        };
    }

    private List<int[]> possibleWorlds(List<Told> told) {
        List<int[]> possible = new ArrayList<>();
        List<Told> closed = told.stream().filter(t -> t.status != 0).toList();
        for (int[] world : allWorlds(boxes())) {
            boolean fits = true;
            for (Told t : closed) {
                fits = fits && t.fits(world);
            }
            if (fits) {
                possible.add(world);
            }
        }
        return possible;
    }

    private List<int[]> possibleWorlds() {
        return possibleWorlds(now.told);
    }

    private static int countIf(List<int[]> worlds, Predicate<int[]> test) {
        return (int) worlds.stream().filter(test).count();
    }

    private static boolean isCertain(List<int[]> worlds, Predicate<int[]> test) {
        return !worlds.isEmpty() && worlds.stream().allMatch(test);
    }

    private void record() {
        history.add(now.copy());
        if (history.size() > 6) {
            history.remove(0);
        }
    }

    int open(int boxes) {
        if (boxes < 3 || boxes > 6) {
            return -2;
        }
        int before = boxes();
        record();
        now = fresh(boxes);
        return before;
    }

    int look(int person, int box) {
        if (!isBox(person) || !isBox(box)) {
            return -1;
        }
        if (person == box) {
            return -2;
        }
        record();
        int before = now.looks[person];
        now.looks[person] = box;
        return before;
    }

    int tell(int teller, int kind, int a, int b) {
        if (!isBox(teller)) {
            return -1;
        }
        if (!suits(kind, a, b)) {
            return -2;
        }
        if (now.told.size() == 20) {
            return -4;
        }
        record();
        now.told.add(new Told(teller, kind, a, b, 0));
        return now.told.size() - 1;
    }

    int tellAll() {
        if (fault() != -6) {
            return -3;
        }
        List<Told> more = new ArrayList<>();
        for (String one : pad.split(",")) {
            more.add(new Told(one.charAt(0) - '0', ">/=~#*".indexOf(one.charAt(3)), one.charAt(2) - '0', one.charAt(4) - '0', 0));
        }
        if (!more.stream().allMatch(t -> isBox(t.teller))) {
            return -1;
        }
        if (!more.stream().allMatch(t -> suits(t.kind, t.a, t.b))) {
            return -2;
        }
        if (now.told.size() + more.size() > 20) {
            return -4;
        }
        record();
        now.told.addAll(more);
        pad = "";
        return more.size();
    }

    int prove(int rumour, boolean isSo) {
        if (!isRumour(rumour)) {
            return -1;
        }
        if (now.told.get(rumour).status != 0) {
            return -5;
        }
        record();
        now.told.set(rumour, now.told.get(rumour).with(isSo ? 1 : 2));
        return possibleWorlds().size();
    }

    int reveal() {
        record();
        int open = count(2);
        now.told.replaceAll(t -> t.status != 0 ? t : t.with(t.holds(now.looks) ? 1 : 2));
        return open;
    }

    int doubt(int rumour) {
        if (!isRumour(rumour)) {
            return -1;
        }
        if (now.told.get(rumour).status == 0) {
            return -5;
        }
        record();
        now.told.set(rumour, now.told.get(rumour).with(0));
        return possibleWorlds().size();
    }

    int guess(int person, int other, int box) {
        if (!isBox(person) || !isBox(other) || !isBox(box)) {
            return -1;
        }
        if (person == other || other == box) {
            return -2;
        }
        if (now.guessed[person]) {
            return -5;
        }
        record();
        List<int[]> worlds = possibleWorlds();
        if (now.looks[other] == box) {
            now.scores[person] += 3 + (isCertain(worlds, w -> w[other] == box) ? 0 : 2);
        } else {
            now.scores[person] -= 2 + (isCertain(worlds, w -> w[other] != box) ? 2 : 0);
        }
        now.guessed[person] = true;
        return now.scores[person] + 1000;
    }

    int endAct() {
        record();
        for (Told t : now.told) {
            now.scores[t.teller] += t.holds(now.looks) ? 1 : -1;
        }
        now = new State(now.act + 1, now.looks, now.scores, new boolean[boxes()], new ArrayList<>());
        return now.act;
    }

    int person(int person, int what) {
        if (!isBox(person)) {
            return -1;
        }
        return switch (what) {
            case 0 -> now.looks[person];
            case 1 -> now.scores[person] + 1000;
            case 2 -> now.guessed[person] ? 1 : 0;
            case 3 -> (int) now.told.stream().filter(t -> t.teller == person).count();
            case 4 -> (int) now.told.stream().filter(t -> t.teller == person && t.holds(now.looks)).count();
            case 5 -> (int) Arrays.stream(now.looks).filter(box -> box == person).count();
            default -> -2;
        };
    }

    int rumour(int rumour, int what) {
        if (!isRumour(rumour)) {
            return -1;
        }
        Told t = now.told.get(rumour);
        return switch (what) {
            case 0 -> t.teller;
            case 1 -> t.kind;
            case 2 -> t.a;
            case 3 -> t.b;
            case 4 -> t.status;
            case 5 -> t.holds(now.looks) ? 1 : 0;
            case 6 -> countIf(possibleWorlds(), t::holds);
            default -> -2;
        };
    }

    int count(int what) {
        return switch (what) {
            case 0 -> boxes();
            case 1 -> now.told.size();
            case 2 -> (int) now.told.stream().filter(t -> t.status == 0).count();
            case 3 -> possibleWorlds().size();
            case 4 -> now.told.stream().allMatch(t -> t.fits(now.looks)) ? 1 : 0;
            case 5 -> now.act;
            case 6 -> certainPersons();
            case 7 -> openThatAre(possibleWorlds(), true);
            case 8 -> openThatAre(possibleWorlds(), false);
            case 9 -> pad.length();
            case 10 -> history.size();
            default -> -2;
        };
    }

    private int certainPersons() {
        int found = 0;
        for (int p = 0; p < boxes(); p++) {
            found += certain(p) >= 0 ? 1 : 0;
        }
        return found;
    }

    private int openThatAre(List<int[]> worlds, boolean so) {
        return (int) now.told.stream().filter(t -> t.status == 0 && isCertain(worlds, w -> t.holds(w) == so)).count();
    }

    int possible(int person, int box) {
        return isBox(person) && isBox(box) ? countIf(possibleWorlds(), w -> w[person] == box) : -1;
    }

    int certain(int person) {
        if (!isBox(person)) {
            return -1;
        }
        int[] boxes = possibleWorlds().stream().mapToInt(w -> w[person]).distinct().toArray();
        return boxes.length == 1 ? boxes[0] : -6;
    }

    int world(int world, int person) {
        List<int[]> worlds = possibleWorlds();
        return isBox(person) && world >= 0 && world < worlds.size() ? worlds.get(world)[person] : -1;
    }

    int ifProved(int kind, int a, int b) {
        if (!suits(kind, a, b)) {
            return -2;
        }
        List<Told> more = new ArrayList<>(now.told);
        more.add(new Told(0, kind, a, b, 1));
        return possibleWorlds(more).size();
    }

    int sharpest(int what) {
        if (what < 0 || what > 1) {
            return -2;
        }
        List<int[]> worlds = possibleWorlds();
        int best = -6;
        int least = Integer.MAX_VALUE;
        for (int r = 0; r < now.told.size(); r++) {
            Told t = now.told.get(r);
            int greater = Math.max(countIf(worlds, t::holds), countIf(worlds, w -> !t.holds(w)));
            if (t.status == 0 && greater < least) {
                best = r;
                least = greater;
            }
        }
        return best < 0 || what == 0 ? best : least;
    }

    int blame(int what) {
        if (what < 0 || what > 1) {
            return -2;
        }
        if (!possibleWorlds().isEmpty()) {
            return -6;
        }
        int worst = -1;
        int most = -1;
        for (int r = 0; r < now.told.size(); r++) {
            List<Told> without = new ArrayList<>(now.told);
            boolean closed = without.remove(r).status != 0;
            int worlds = possibleWorlds(without).size();
            if (closed && worlds > most) {
                worst = r;
                most = worlds;
            }
        }
        return what == 0 ? worst : most;
    }

    int mostWatched(int what) {
        if (what < 0 || what > 1) {
            return -2;
        }
        List<int[]> worlds = possibleWorlds();
        for (int watchers = boxes(); watchers > 0; watchers--) {
            for (int p = 0; p < boxes(); p++) {
                Told just = new Told(0, 4, p, watchers, 0);
                if (worlds.stream().anyMatch(just::holds)) {
                    return what == 0 ? p : watchers;
                }
            }
        }
        return -6;
    }

    int put(long characters) {
        String text = "";
        boolean ended = false;
        for (int i = 0; i < 8; i++) {
            int code = (int) (characters >> 8 * i) & 255;
            ended = ended || code == 0;
            if (ended && code != 0 || !ended && (code < 33 || code > 126)) {
                return -2;
            }
            text = ended ? text : (char) code + text;
        }
        if (text.isEmpty()) {
            return -2;
        }
        if (pad.length() + text.length() > 60) {
            return -4;
        }
        pad += text;
        return pad.length();
    }

    int wipe() {
        int before = pad.length();
        pad = "";
        return before;
    }

    int fault() {
        for (int length = 1; length <= pad.length(); length++) {
            Matcher matcher = TEXT.matcher(pad.substring(0, length));
            if (!matcher.matches() && !matcher.hitEnd()) {
                return length - 1;
            }
        }
        return TEXT.matcher(pad).matches() ? -6 : pad.length();
    }

    int undo() {
        if (history.isEmpty()) {
            return -5;
        }
        now = history.remove(history.size() - 1);
        return history.size();
    }

    int save(int slot) {
        if (slot != 0 && slot != 1) {
            return -2;
        }
        slots[slot] = now.copy();
        return now.told.size();
    }

    int restore(int slot) {
        if (slot != 0 && slot != 1) {
            return -2;
        }
        if (slots[slot] == null) {
            return -5;
        }
        record();
        now = slots[slot].copy();
        return now.told.size();
    }
}
