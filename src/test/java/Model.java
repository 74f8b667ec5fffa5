import java.util.ArrayList;
import java.util.Comparator;
import java.util.LinkedHashSet;
import java.util.List;
import java.util.Set;
import java.util.TreeMap;

/**
 * The document once more, written with the Java library and as near to its words as can be, so that long runs of
 * calls can be held against it. It shares nothing with the class.
 */
public final class Model {
    private static final int NO_SUCH = -1, BAD_VALUE = -2, BAD_TEXT = -3, TOO_MANY = -4, NOT_POSSIBLE = -5, NONE = -6;
    private static final String[] AT_FIRST = {"aehiouwy", "bfpv", "cgjkqsxz", "dt", "l", "mn", "r"};

    private record Merger(int into, int from, Set<Character> firsts, Set<Character> seconds) { }

    private static final class Ear {
        TreeMap<Character, Integer> firsts = new TreeMap<>();
        TreeMap<Character, Integer> seconds = new TreeMap<>();
        int habits = 0;
        List<Merger> mergers = new ArrayList<>();

        Ear() {
            for (int kind = 0; kind < AT_FIRST.length; kind++) {
                for (char sign : AT_FIRST[kind].toCharArray()) firsts.put(sign, kind);
            }
        }

        Ear copy() {
            Ear copy = new Ear();
            copy.firsts = new TreeMap<>(firsts);
            copy.seconds = new TreeMap<>(seconds);
            copy.habits = habits;
            copy.mergers = new ArrayList<>(mergers);
            return copy;
        }

        void tidy() {
            seconds.entrySet().removeIf(entry -> entry.getValue().equals(firsts.get(entry.getKey())));
        }

        void merge(int into, int from) {
            Set<Character> moved = new LinkedHashSet<>();
            Set<Character> movedSeconds = new LinkedHashSet<>();
            firsts.forEach((sign, kind) -> { if (kind == from) moved.add(sign); });
            seconds.forEach((sign, kind) -> { if (kind == from) movedSeconds.add(sign); });
            moved.forEach(sign -> firsts.put(sign, into));
            movedSeconds.forEach(sign -> seconds.put(sign, into));
            tidy();
            movedSeconds.retainAll(seconds.keySet());
            mergers.add(new Merger(into, from, moved, movedSeconds));
            if (mergers.size() > 6) mergers.remove(0);
        }

        int split() {
            Merger last = mergers.remove(mergers.size() - 1);
            for (char sign : last.firsts) {
                if (firsts.get(sign) == last.into) firsts.put(sign, last.from);
            }
            for (char sign : last.seconds) {
                if (seconds.containsKey(sign) && seconds.get(sign) == last.into) seconds.put(sign, last.from);
            }
            tidy();
            return last.from;
        }

        int setOf(int kind) {
            int set = 0;
            for (char sign = 'a'; sign <= 'z'; sign++) if (firsts.get(sign) == kind) set |= 1 << sign - 'a';
            return set;
        }

        /** What the letter is heard as by a habit; null if it is heard by its classes. */
        Integer habitual(String name, int i) {
            if ((habits & 4) != 0 && i == 0) return 10 + name.charAt(0) - 'a';
            if ((habits & 1) != 0 && name.charAt(i) == 'h' && i > 0 && "cpst".indexOf(name.charAt(i - 1)) >= 0) return 0;
            if ((habits & 2) != 0 && name.length() > 1 && i == name.length() - 1 && name.charAt(i) == 's') return 0;
            return null;
        }

        List<Integer> way(String name, int length, int way) {
            List<Integer> heard = new ArrayList<>();
            int open = 0;
            for (int i = 0; i < name.length(); i++) {
                Integer kind = habitual(name, i);
                if (kind == null) {
                    kind = firsts.get(name.charAt(i));
                    Integer second = seconds.get(name.charAt(i));
                    if (second != null) {
                        open++;
                        if (open == 1 && way % 2 == 1 || open == 2 && way >= 2) kind = second;
                    }
                }
                heard.add(kind);
            }
            List<Integer> code = new ArrayList<>();
            for (int i = 0; i < heard.size(); i++) {
                boolean same = i > 0 && heard.get(i).equals(heard.get(i - 1));
                if (heard.get(i) > 0 && !same && code.size() < length) code.add(heard.get(i));
            }
            return code;
        }

        List<List<Integer>> codes(String name, int length) {
            Set<List<Integer>> codes = new LinkedHashSet<>();
            for (int way = 0; way < 4; way++) codes.add(way(name, length, way));
            return new ArrayList<>(codes);
        }
    }

    private static final class State {
        int length = 4;
        int limit = 24;
        List<String> names = new ArrayList<>();
        List<Ear> ears = new ArrayList<>();

        State copy() {
            State copy = new State();
            copy.length = length;
            copy.limit = limit;
            copy.names = new ArrayList<>(names);
            for (Ear ear : ears) copy.ears.add(ear.copy());
            return copy;
        }
    }

    private State now = new State();
    private final List<State> history = new ArrayList<>();
    private final State[] slots = new State[2];
    private String pad = "";

    private void change() {
        history.add(now.copy());
        if (history.size() > 6) history.remove(0);
    }

    private static boolean in(int value, int least, int most) {
        return least <= value && value <= most;
    }

    private boolean isEar(int ear) {
        return in(ear, 0, now.ears.size() - 1);
    }

    private boolean isName(int name) {
        return in(name, 0, now.names.size() - 1);
    }

    private boolean isAlike(Ear ear, String one, String other) {
        List<List<Integer>> codes = ear.codes(one, now.length);
        codes.retainAll(ear.codes(other, now.length));
        return !codes.isEmpty();
    }

    private List<List<Integer>> drawers(Ear ear) {
        Set<List<Integer>> drawers = new LinkedHashSet<>();
        for (String name : now.names) drawers.addAll(ear.codes(name, now.length));
        return new ArrayList<>(drawers);
    }

    private int namesIn(Ear ear, List<Integer> code) {
        int set = 0;
        for (int name = 0; name < now.names.size(); name++) {
            if (ear.codes(now.names.get(name), now.length).contains(code)) set |= 1 << name;
        }
        return set;
    }

    private int pairs(Ear ear) {
        int pairs = 0;
        for (int one = 0; one < now.names.size(); one++) {
            for (int other = 0; other < one; other++) {
                if (isAlike(ear, now.names.get(one), now.names.get(other))) pairs++;
            }
        }
        return pairs;
    }

    private static int editing(String one, String other) {
        int[][] table = new int[one.length() + 1][other.length() + 1];
        for (int i = 0; i <= one.length(); i++) {
            for (int j = 0; j <= other.length(); j++) {
                if (i == 0 || j == 0) {
                    table[i][j] = i + j;
                    continue;
                }
                int change = table[i - 1][j - 1] + (one.charAt(i - 1) == other.charAt(j - 1) ? 0 : 1);
                table[i][j] = Math.min(change, 1 + Math.min(table[i - 1][j], table[i][j - 1]));
            }
        }
        return table[one.length()][other.length()];
    }

    public int set(int setting, int value) {
        if (!in(setting, 0, 1) || !in(value, 1, setting == 0 ? 5 : 24)) return BAD_VALUE;
        change();
        int previous = setting == 0 ? now.length : now.limit;
        if (setting == 0) now.length = value;
        else now.limit = value;
        return previous;
    }

    public int add() {
        if (fault() != NONE) return BAD_TEXT;
        if (now.names.contains(pad)) return NOT_POSSIBLE;
        if (now.names.size() >= now.limit) return TOO_MANY;
        change();
        now.names.add(pad);
        pad = "";
        return now.names.size() - 1;
    }

    public int drop(int name) {
        if (!isName(name)) return NO_SUCH;
        change();
        now.names.remove(name);
        return now.names.size();
    }

    public int ear(int as) {
        if (as != NONE && !isEar(as)) return NO_SUCH;
        if (now.ears.size() == 4) return TOO_MANY;
        change();
        now.ears.add(as == NONE ? new Ear() : now.ears.get(as).copy());
        return now.ears.size() - 1;
    }

    public int hear(int ear, int letter, int kind) {
        if (!isEar(ear) || !in(letter, 0, 25)) return NO_SUCH;
        if (!in(kind, 0, 9)) return BAD_VALUE;
        change();
        int previous = now.ears.get(ear).firsts.put((char) ('a' + letter), kind);
        now.ears.get(ear).tidy();
        return previous;
    }

    public int second(int ear, int letter, int kind) {
        if (!isEar(ear) || !in(letter, 0, 25)) return NO_SUCH;
        if (kind != NONE && !in(kind, 0, 9)) return BAD_VALUE;
        char sign = (char) ('a' + letter);
        if (now.ears.get(ear).firsts.get(sign) == kind) return NOT_POSSIBLE;
        change();
        TreeMap<Character, Integer> seconds = now.ears.get(ear).seconds;
        Integer previous = kind == NONE ? seconds.remove(sign) : seconds.put(sign, kind);
        return previous == null ? NONE : previous;
    }

    public int habits(int ear, int habits) {
        if (!isEar(ear)) return NO_SUCH;
        if (!in(habits, 0, 7)) return BAD_VALUE;
        change();
        int previous = now.ears.get(ear).habits;
        now.ears.get(ear).habits = habits;
        return previous;
    }

    public int merge(int ear, int into, int from) {
        if (!isEar(ear)) return NO_SUCH;
        if (!in(into, 0, 9) || !in(from, 0, 9) || into == from) return BAD_VALUE;
        change();
        now.ears.get(ear).merge(into, from);
        return Integer.bitCount(now.ears.get(ear).setOf(into));
    }

    public int split(int ear) {
        if (!isEar(ear)) return NO_SUCH;
        if (now.ears.get(ear).mergers.isEmpty()) return NOT_POSSIBLE;
        change();
        return now.ears.get(ear).split();
    }

    private static int lettersOf(String text) {
        int set = 0;
        for (char sign : text.toCharArray()) set |= 1 << sign - 'a';
        return set;
    }

    public int name(int name, int what) {
        if (!isName(name)) return NO_SUCH;
        if (!in(what, 0, 11)) return BAD_VALUE;
        String text = now.names.get(name);
        if (what == 0) return text.length();
        if (what == 11) return lettersOf(text);
        return what > text.length() ? NONE : text.charAt(what - 1) - 'a';
    }

    public int of(int ear, int letter, int what) {
        if (!isEar(ear) || !in(letter, 0, 25)) return NO_SUCH;
        if (!in(what, 0, 2)) return BAD_VALUE;
        Ear listener = now.ears.get(ear);
        char sign = (char) ('a' + letter);
        if (what == 0) return listener.firsts.get(sign);
        if (what == 1) return listener.seconds.getOrDefault(sign, NONE);
        return listener.setOf(listener.firsts.get(sign));
    }

    public int ofEar(int ear, int what) {
        if (!isEar(ear)) return NO_SUCH;
        if (!in(what, 0, 7)) return BAD_VALUE;
        Ear listener = now.ears.get(ear);
        switch (what) {
            case 0: return listener.habits;
            case 1: return listener.mergers.size();
            case 2: return drawers(listener).size();
            case 3: return fullest(listener);
            case 4: return severals(listener);
            case 5: return pairs(listener);
            case 7: return listener.setOf(0);
            default: break;
        }
        int withSecond = 0;
        for (char sign : listener.seconds.keySet()) withSecond |= 1 << sign - 'a';
        return withSecond;
    }

    private int fullest(Ear ear) {
        int fullest = 0;
        for (List<Integer> code : drawers(ear)) fullest = Math.max(fullest, Integer.bitCount(namesIn(ear, code)));
        return fullest;
    }

    private int severals(Ear ear) {
        int severals = 0;
        for (int name = 0; name < now.names.size(); name++) {
            if (ear.codes(now.names.get(name), now.length).size() >= 2) severals |= 1 << name;
        }
        return severals;
    }

    public int code(int ear, int name, int which, int place) {
        if (!isEar(ear) || !isName(name)) return NO_SUCH;
        List<List<Integer>> codes = now.ears.get(ear).codes(now.names.get(name), now.length);
        if (!in(which, 0, codes.size() - 1)) return NO_SUCH;
        if (!in(place, 0, 6)) return BAD_VALUE;
        List<Integer> code = codes.get(which);
        if (place == 5) return code.size();
        if (place == 6) return drawers(now.ears.get(ear)).indexOf(code);
        return place < code.size() ? code.get(place) : NONE;
    }

    public int drawer(int ear, int drawer, int order) {
        if (!isEar(ear)) return NO_SUCH;
        List<List<Integer>> drawers = drawers(now.ears.get(ear));
        if (!in(drawer, 0, drawers.size() - 1)) return NO_SUCH;
        if (!in(order, 0, 1)) return BAD_VALUE;
        if (order == 1) drawers.sort(Model::compareCodes);
        return namesIn(now.ears.get(ear), drawers.get(drawer));
    }

    private static int compareCodes(List<Integer> one, List<Integer> other) {
        if (one.size() != other.size()) return one.size() - other.size();
        for (int i = 0; i < one.size(); i++) {
            if (!one.get(i).equals(other.get(i))) return one.get(i) - other.get(i);
        }
        return 0;
    }

    public int count(int what) {
        int[] answers = {
            now.names.size(), now.ears.size(), now.length, now.limit, pad.length(), history.size(),
            lettersOf(String.join("", now.names))
        };
        return in(what, 0, 6) ? answers[what] : BAD_VALUE;
    }

    public int alike(int ear, int one, int other) {
        if (!isEar(ear) || !isName(one) || !isName(other)) return NO_SUCH;
        return isAlike(now.ears.get(ear), now.names.get(one), now.names.get(other)) ? 1 : 0;
    }

    public int distance(int one, int other) {
        return isName(one) && isName(other) ? editing(now.names.get(one), now.names.get(other)) : NO_SUCH;
    }

    public int find(int ear, int rank, int what) {
        if (fault() != NONE) return BAD_TEXT;
        if (!isEar(ear)) return NO_SUCH;
        List<Integer> found = new ArrayList<>();
        for (int name = 0; name < now.names.size(); name++) {
            if (isAlike(now.ears.get(ear), pad, now.names.get(name))) found.add(name);
        }
        found.sort(Comparator.comparingInt(name -> editing(pad, now.names.get(name))));
        if (!in(rank, 0, found.size() - 1)) return NO_SUCH;
        if (!in(what, 0, 1)) return BAD_VALUE;
        return what == 0 ? found.get(rank) : editing(pad, now.names.get(found.get(rank)));
    }

    public int ifMerged(int ear, int into, int from, int what) {
        if (!isEar(ear)) return NO_SUCH;
        if (!in(into, 0, 9) || !in(from, 0, 9) || !in(what, 0, 1) || into == from) return BAD_VALUE;
        Ear merged = now.ears.get(ear).copy();
        merged.merge(into, from);
        return what == 0 ? drawers(merged).size() : pairs(merged);
    }

    public int bestMerger(int ear, int what) {
        if (!isEar(ear)) return NO_SUCH;
        if (!in(what, 0, 2)) return BAD_VALUE;
        int[] best = null;
        for (int lower = 1; lower <= 9; lower++) {
            for (int higher = lower + 1; higher <= 9; higher++) {
                Ear listener = now.ears.get(ear);
                if (listener.setOf(lower) == 0 || listener.setOf(higher) == 0) continue;
                int pairs = ifMerged(ear, lower, higher, 1);
                if (best == null || pairs < best[2]) best = new int[] {lower, higher, pairs};
            }
        }
        return best == null ? NONE : best[what];
    }

    public int quarrel(int ear, int other) {
        if (!isEar(ear) || !isEar(other)) return NO_SUCH;
        int pairs = 0;
        for (String one : now.names) {
            for (String two : now.names) {
                boolean ahead = now.names.indexOf(one) < now.names.indexOf(two);
                if (ahead && isAlike(now.ears.get(ear), one, two) && !isAlike(now.ears.get(other), one, two)) pairs++;
            }
        }
        return pairs;
    }

    public int deafest() {
        int deafest = NONE;
        for (int ear = 0; ear < now.ears.size(); ear++) {
            if (deafest == NONE || pairs(now.ears.get(ear)) > pairs(now.ears.get(deafest))) deafest = ear;
        }
        return deafest;
    }

    public int put(long characters) {
        StringBuilder text = new StringBuilder();
        boolean ended = false;
        for (int i = 0; i < 8; i++) {
            int sign = (int) (characters >> 8 * i & 255);
            if (sign == 0) ended = true;
            else if (ended || sign < 33 || sign > 126) return BAD_VALUE;
            else text.insert(0, (char) sign);
        }
        if (text.length() == 0) return BAD_VALUE;
        if (pad.length() + text.length() > 80) return TOO_MANY;
        pad += text;
        return pad.length();
    }

    public int wipe() {
        int previous = pad.length();
        pad = "";
        return previous;
    }

    public int fault() {
        if (pad.matches("[a-z]{1,10}")) return NONE;
        for (int i = 0; i < pad.length(); i++) {
            if (i == 10 || !Character.toString(pad.charAt(i)).matches("[a-z]")) return i;
        }
        return 0;
    }

    public int undo() {
        if (history.isEmpty()) return NOT_POSSIBLE;
        now = history.remove(history.size() - 1);
        return history.size();
    }

    public int save(int slot) {
        if (!in(slot, 0, 1)) return BAD_VALUE;
        slots[slot] = now.copy();
        return now.names.size();
    }

    public int restore(int slot) {
        if (!in(slot, 0, 1)) return BAD_VALUE;
        if (slots[slot] == null) return NOT_POSSIBLE;
        change();
        now = slots[slot].copy();
        return now.names.size();
    }
}
