/**
 * Consonants as an index of names that ears hear unlike.
 *
 * What each call does and answers stands in ../shared/DOC.md; the part of Java that is used here, in
 * ../shared/LANGUAGE.md. All rows are made in the constructor and used again, so that no call makes an object.
 */
public final class ConsonantIndex {
    public static final int NO_SUCH = -1, BAD_VALUE = -2, BAD_TEXT = -3, TOO_MANY = -4, NOT_POSSIBLE = -5, NONE = -6;
    public static final int LENGTH = 0, NAMES = 1;

    private static final int ALPHABET = 26;
    private static final int CLASSES = 10;
    private static final int ALL_HABITS = 7;
    private static final int LETTERS_AT_MOST = 10;
    private static final int LENGTH_AT_FIRST = 4;
    private static final int LENGTH_AT_MOST = 5;
    private static final int NAMES_AT_MOST = 24;
    private static final int EARS_AT_MOST = 4;
    private static final int MERGERS_AT_MOST = 6;
    private static final int CHANGES_AT_MOST = 6;
    private static final int SLOTS = 2;
    private static final int WAYS = 4;
    private static final int PAD_AT_MOST = 80;

    private final State now = new State();
    private final State[] past = new State[CHANGES_AT_MOST];
    private int changes = 0;
    private final State[] slots = new State[SLOTS];
    private final boolean[] saved = new boolean[SLOTS];
    private final Pad pad = new Pad();
    private final Drawers drawers = new Drawers();
    private final Drawers otherDrawers = new Drawers();
    private final Ear supposed = new Ear();
    private final Meter meter = new Meter();

    public ConsonantIndex() {
        for (int i = 0; i < past.length; i++) past[i] = new State();
        for (int i = 0; i < slots.length; i++) slots[i] = new State();
    }

    // ---- changes

    public int set(int setting, int value) {
        if (setting == LENGTH && isWithin(value, 1, LENGTH_AT_MOST)) {
            int previous = now.codeLength;
            recordChange();
            now.codeLength = value;
            return previous;
        }
        if (setting == NAMES && isWithin(value, 1, NAMES_AT_MOST)) {
            int previous = now.nameLimit;
            recordChange();
            now.nameLimit = value;
            return previous;
        }
        return BAD_VALUE;
    }

    public int add() {
        if (pad.firstFault() != NONE) return BAD_TEXT;
        long word = pad.asWord();
        if (now.holds(word)) return NOT_POSSIBLE;
        if (now.nameCount >= now.nameLimit || now.nameCount >= NAMES_AT_MOST) return TOO_MANY;
        recordChange();
        now.words[now.nameCount] = word;
        now.nameCount++;
        pad.size = 0;
        return now.nameCount - 1;
    }

    public int drop(int name) {
        if (!now.hasName(name)) return NO_SUCH;
        recordChange();
        now.removeName(name);
        return now.nameCount;
    }

    public int ear(int as) {
        Ear model = now.earAt(as);
        if (model == null && as != NONE) return NO_SUCH;
        if (now.earCount >= EARS_AT_MOST) return TOO_MANY;
        recordChange();
        Ear comer = now.ears[now.earCount];
        if (model == null) comer.beAsAtFirst();
        else comer.beAs(model);
        now.earCount++;
        return now.earCount - 1;
    }

    public int hear(int ear, int letter, int kind) {
        Ear listener = now.earAt(ear);
        if (listener == null || !Word.isLetter(letter)) return NO_SUCH;
        if (!isClass(kind)) return BAD_VALUE;
        recordChange();
        int previous = listener.firsts[letter];
        listener.firsts[letter] = kind;
        listener.loseSameSecond(letter);
        return previous;
    }

    public int second(int ear, int letter, int kind) {
        Ear listener = now.earAt(ear);
        if (listener == null || !Word.isLetter(letter)) return NO_SUCH;
        if (!isClass(kind) && kind != NONE) return BAD_VALUE;
        if (kind == listener.firsts[letter]) return NOT_POSSIBLE;
        recordChange();
        int previous = listener.seconds[letter];
        listener.seconds[letter] = kind;
        return previous;
    }

    public int habits(int ear, int habits) {
        Ear listener = now.earAt(ear);
        if (listener == null) return NO_SUCH;
        if (!isWithin(habits, 0, ALL_HABITS)) return BAD_VALUE;
        recordChange();
        int previous = listener.habitSet;
        listener.habitSet = habits;
        return previous;
    }

    public int merge(int ear, int into, int from) {
        Ear listener = now.earAt(ear);
        if (listener == null) return NO_SUCH;
        if (!canMerge(into, from)) return BAD_VALUE;
        recordChange();
        listener.mergeClasses(into, from);
        return Integer.bitCount(listener.lettersOf(into));
    }

    public int split(int ear) {
        Ear listener = now.earAt(ear);
        if (listener == null) return NO_SUCH;
        if (listener.mergers <= 0) return NOT_POSSIBLE;
        recordChange();
        return listener.splitLatest();
    }

    // ---- what there is

    public int name(int name, int what) {
        if (!now.hasName(name)) return NO_SUCH;
        long word = now.words[name];
        if (what == 0) return Word.size(word);
        if (isWithin(what, 1, LETTERS_AT_MOST)) {
            int letter = Word.letterAt(word, what - 1);
            return letter == Word.NO_LETTER ? NONE : letter;
        }
        if (what == LETTERS_AT_MOST + 1) return Word.letterSet(word);
        return BAD_VALUE;
    }

    public int of(int ear, int letter, int what) {
        Ear listener = now.earAt(ear);
        if (listener == null || !Word.isLetter(letter)) return NO_SUCH;
        switch (what) {
            case 0: return listener.firsts[letter];
            case 1: return listener.seconds[letter];
            case 2: return listener.lettersOf(listener.firsts[letter]);
            default: return BAD_VALUE;
        }
    }

    public int ofEar(int ear, int what) {
        Ear listener = now.earAt(ear);
        if (listener == null) return NO_SUCH;
        drawers.fill(now, listener);
        switch (what) {
            case 0: return listener.habitSet;
            case 1: return listener.mergers;
            case 2: return drawers.drawerCount;
            case 3: return drawers.namesInFullest();
            case 4: return drawers.namesInSeveral();
            case 5: return drawers.alikePairs();
            case 6: return listener.lettersWithSecond();
            case 7: return listener.lettersOf(Ear.SILENT);
            default: return BAD_VALUE;
        }
    }

    public int code(int ear, int name, int which, int place) {
        Ear listener = now.earAt(ear);
        if (listener == null || !now.hasName(name)) return NO_SUCH;
        drawers.fill(now, listener);
        if (!isWithin(which, 0, drawers.codesOf(name) - 1)) return NO_SUCH;
        if (!isWithin(place, 0, LENGTH_AT_MOST + 1)) return BAD_VALUE;
        int drawer = drawers.drawerOf(name, which);
        if (place == LENGTH_AT_MOST + 1) return drawer;
        int numbers = drawers.codeAt(drawer);
        int size = Code.size(numbers);
        if (place == LENGTH_AT_MOST) return size;
        return place < size ? Code.numberAt(numbers, place) : NONE;
    }

    public int drawer(int ear, int drawer, int order) {
        Ear listener = now.earAt(ear);
        if (listener == null) return NO_SUCH;
        drawers.fill(now, listener);
        if (!isWithin(drawer, 0, drawers.drawerCount - 1)) return NO_SUCH;
        switch (order) {
            case 0: return drawers.namesAt(drawer);
            case 1: return drawers.namesAt(drawers.byCode(drawer));
            default: return BAD_VALUE;
        }
    }

    public int count(int what) {
        switch (what) {
            case 0: return now.nameCount;
            case 1: return now.earCount;
            case 2: return now.codeLength;
            case 3: return now.nameLimit;
            case 4: return pad.size;
            case 5: return changes;
            case 6: return now.lettersInNames();
            default: return BAD_VALUE;
        }
    }

    public int alike(int ear, int one, int other) {
        Ear listener = now.earAt(ear);
        if (listener == null || !now.hasName(one) || !now.hasName(other)) return NO_SUCH;
        drawers.fill(now, listener);
        return (drawers.namesLike(one) & 1 << other) != 0 ? 1 : 0;
    }

    public int distance(int one, int other) {
        if (!now.hasName(one) || !now.hasName(other)) return NO_SUCH;
        return meter.between(now.words[one], now.words[other]);
    }

    public int find(int ear, int rank, int what) {
        if (pad.firstFault() != NONE) return BAD_TEXT;
        Ear listener = now.earAt(ear);
        if (listener == null) return NO_SUCH;
        long word = pad.asWord();
        drawers.fill(now, listener);
        int name = meter.ranked(now, word, drawers.namesHeardLike(word, now, listener), rank);
        if (!now.hasName(name)) return NO_SUCH;
        switch (what) {
            case 0: return name;
            case 1: return meter.between(word, now.words[name]);
            default: return BAD_VALUE;
        }
    }

    // ---- what if; nothing changes

    public int ifMerged(int ear, int into, int from, int what) {
        Ear listener = now.earAt(ear);
        if (listener == null) return NO_SUCH;
        if (!canMerge(into, from) || !isWithin(what, 0, 1)) return BAD_VALUE;
        fillAsIfMerged(listener, into, from);
        return what == 0 ? drawers.drawerCount : drawers.alikePairs();
    }

    public int bestMerger(int ear, int what) {
        Ear listener = now.earAt(ear);
        if (listener == null) return NO_SUCH;
        if (!isWithin(what, 0, 2)) return BAD_VALUE;
        int bestLower = NONE;
        int bestHigher = NONE;
        int fewest = NONE;
        for (int lower = 1; lower < CLASSES; lower++) {
            if (listener.lettersOf(lower) == 0) continue;
            for (int higher = lower + 1; higher < CLASSES; higher++) {
                if (listener.lettersOf(higher) == 0) continue;
                fillAsIfMerged(listener, lower, higher);
                int pairs = drawers.alikePairs();
                if (fewest != NONE && pairs >= fewest) continue;
                bestLower = lower;
                bestHigher = higher;
                fewest = pairs;
            }
        }
        switch (what) {
            case 0: return bestLower;
            case 1: return bestHigher;
            default: return fewest;
        }
    }

    public int quarrel(int ear, int other) {
        Ear one = now.earAt(ear);
        Ear two = now.earAt(other);
        if (one == null || two == null) return NO_SUCH;
        drawers.fill(now, one);
        otherDrawers.fill(now, two);
        int twice = 0;
        for (int name = 0; name < now.nameCount; name++) {
            twice += Integer.bitCount(drawers.namesLike(name) & ~otherDrawers.namesLike(name));
        }
        return twice / 2;
    }

    public int deafest() {
        int deafest = NONE;
        int most = NONE;
        for (int ear = 0; ear < now.earCount; ear++) {
            Ear listener = now.earAt(ear);
            if (listener == null) continue;
            drawers.fill(now, listener);
            int pairs = drawers.alikePairs();
            if (pairs > most) {
                deafest = ear;
                most = pairs;
            }
        }
        return deafest;
    }

    // ---- texts

    public int put(long characters) {
        int many = Pad.charactersIn(characters);
        if (many == 0) return BAD_VALUE;
        if (pad.size + many > PAD_AT_MOST) return TOO_MANY;
        pad.append(characters, many);
        return pad.size;
    }

    public int wipe() {
        int previous = pad.size;
        pad.size = 0;
        return previous;
    }

    public int fault() {
        return pad.firstFault();
    }

    // ---- undo, saving

    public int undo() {
        if (changes <= 0 || changes > past.length) return NOT_POSSIBLE;
        changes--;
        now.beAs(past[changes]);
        return changes;
    }

    public int save(int slot) {
        if (!isWithin(slot, 0, SLOTS - 1)) return BAD_VALUE;
        slots[slot].beAs(now);
        saved[slot] = true;
        return now.nameCount;
    }

    public int restore(int slot) {
        if (!isWithin(slot, 0, SLOTS - 1)) return BAD_VALUE;
        if (!saved[slot]) return NOT_POSSIBLE;
        recordChange();
        now.beAs(slots[slot]);
        return now.nameCount;
    }

    // ---- what several calls share

    private static boolean isWithin(int value, int least, int most) {
        return value >= least && value <= most;
    }

    private static boolean isClass(int kind) {
        return isWithin(kind, 0, CLASSES - 1);
    }

    private static boolean canMerge(int into, int from) {
        return isClass(into) && isClass(from) && into != from;
    }

    /** Keeps the state as it is ahead of a change; the oldest one kept makes room by being written over. */
    private void recordChange() {
        if (changes >= past.length) {
            State oldest = past[0];
            for (int i = 1; i < past.length; i++) past[i - 1] = past[i];
            past[past.length - 1] = oldest;
            changes = past.length - 1;
        }
        past[changes].beAs(now);
        changes++;
    }

    private void fillAsIfMerged(Ear listener, int into, int from) {
        supposed.beAs(listener);
        supposed.mergeClasses(into, from);
        drawers.fill(now, supposed);
    }

    /**
     * A name in one long: five bits for each letter, 1 to 26, the first letter lowest, and 0 behind its end. So two
     * names are the same if their longs are, and a row of names is copied as a row of numbers.
     */
    private static final class Word {
        static final int NO_LETTER = -1;
        static final int BITS = 5;
        static final int MASK = 31;

        static boolean isLetter(int letter) {
            return letter >= 0 && letter < ALPHABET;
        }

        static long with(long word, int place, int letter) {
            return word | (long) (letter + 1) << BITS * place;
        }

        static int letterAt(long word, int place) {
            if (place < 0 || place >= LETTERS_AT_MOST) return NO_LETTER;
            return (int) (word >>> BITS * place & MASK) - 1;
        }

        static int size(long word) {
            int size = 0;
            while (size < LETTERS_AT_MOST && letterAt(word, size) != NO_LETTER) size++;
            return size;
        }

        static int letterSet(long word) {
            int letters = 0;
            int size = size(word);
            for (int place = 0; place < size; place++) letters |= 1 << letterAt(word, place);
            return letters;
        }
    }

    /**
     * A code in one int: six bits for each of its numbers, the last one lowest. No number in it is 0, so a shorter
     * code is a smaller int, and codes of one length are as ints in the order of their numbers.
     */
    private static final class Code {
        static final int BITS = 6;
        static final int MASK = 63;

        static int with(int code, int number) {
            return code << BITS | number;
        }

        static int size(int code) {
            int size = 0;
            while (size < LENGTH_AT_MOST && code >>> BITS * size != 0) size++;
            return size;
        }

        static int numberAt(int code, int place) {
            int behind = size(code) - 1 - place;
            return behind >= 0 ? code >>> BITS * behind & MASK : 0;
        }
    }

    /** How one ear hears letters, and the mergers that it remembers. */
    private static final class Ear {
        static final int[] FIRSTS_AT_FIRST = {
            0, 1, 2, 3, 0, 1, 2, 0, 0, 2, 2, 4, 5, 5, 0, 1, 2, 6, 2, 3, 0, 1, 0, 2, 0, 2
        };
        static final int SILENT_H = 1, SILENT_S = 2, FIRST_BY_ITSELF = 4;
        static final int BY_CLASS = -1;
        static final int SILENT = 0;
        static final int BY_ITSELF = 10;
        static final int C = 2, H = 7, P = 15, S = 18, T = 19;

        final int[] firsts = new int[ALPHABET];
        final int[] seconds = new int[ALPHABET];
        int habitSet;

        // The mergers, the oldest one first: the classes, and the letters whose class (second class) it changed.
        int mergers;
        final int[] intos = new int[MERGERS_AT_MOST];
        final int[] froms = new int[MERGERS_AT_MOST];
        final int[] movedFirsts = new int[MERGERS_AT_MOST];
        final int[] movedSeconds = new int[MERGERS_AT_MOST];

        Ear() {
            beAsAtFirst();
        }

        void beAsAtFirst() {
            for (int letter = 0; letter < ALPHABET; letter++) {
                firsts[letter] = FIRSTS_AT_FIRST[letter];
                seconds[letter] = NONE;
            }
            habitSet = 0;
            mergers = 0;
        }

        void beAs(Ear other) {
            System.arraycopy(other.firsts, 0, firsts, 0, ALPHABET);
            System.arraycopy(other.seconds, 0, seconds, 0, ALPHABET);
            habitSet = other.habitSet;
            mergers = other.mergers;
            System.arraycopy(other.intos, 0, intos, 0, MERGERS_AT_MOST);
            System.arraycopy(other.froms, 0, froms, 0, MERGERS_AT_MOST);
            System.arraycopy(other.movedFirsts, 0, movedFirsts, 0, MERGERS_AT_MOST);
            System.arraycopy(other.movedSeconds, 0, movedSeconds, 0, MERGERS_AT_MOST);
        }

        void loseSameSecond(int letter) {
            if (seconds[letter] == firsts[letter]) seconds[letter] = NONE;
        }

        int lettersOf(int kind) {
            int letters = 0;
            for (int letter = 0; letter < ALPHABET; letter++) {
                if (firsts[letter] == kind) letters |= 1 << letter;
            }
            return letters;
        }

        int lettersWithSecond() {
            int letters = 0;
            for (int letter = 0; letter < ALPHABET; letter++) {
                if (seconds[letter] != NONE) letters |= 1 << letter;
            }
            return letters;
        }

        void mergeClasses(int into, int from) {
            int moved = 0;
            int movedSecond = 0;
            for (int letter = 0; letter < ALPHABET; letter++) {
                if (firsts[letter] == from) {
                    firsts[letter] = into;
                    moved |= 1 << letter;
                }
                boolean secondMoves = seconds[letter] == from;
                if (secondMoves) seconds[letter] = into;
                loseSameSecond(letter);
                // A second class that is gone now did not become the class, so a split leaves it gone.
                if (secondMoves && seconds[letter] == into) movedSecond |= 1 << letter;
            }
            remember(into, from, moved, movedSecond);
        }

        void remember(int into, int from, int moved, int movedSecond) {
            if (mergers >= MERGERS_AT_MOST) forgetOldest();
            intos[mergers] = into;
            froms[mergers] = from;
            movedFirsts[mergers] = moved;
            movedSeconds[mergers] = movedSecond;
            mergers++;
        }

        void forgetOldest() {
            mergers = MERGERS_AT_MOST - 1;
            System.arraycopy(intos, 1, intos, 0, mergers);
            System.arraycopy(froms, 1, froms, 0, mergers);
            System.arraycopy(movedFirsts, 1, movedFirsts, 0, mergers);
            System.arraycopy(movedSeconds, 1, movedSeconds, 0, mergers);
        }

        int splitLatest() {
            if (mergers <= 0 || mergers > MERGERS_AT_MOST) return NOT_POSSIBLE;
            mergers--;
            int into = intos[mergers];
            int from = froms[mergers];
            for (int letter = 0; letter < ALPHABET; letter++) {
                int bit = 1 << letter;
                if ((movedFirsts[mergers] & bit) != 0 && firsts[letter] == into) firsts[letter] = from;
                if ((movedSeconds[mergers] & bit) != 0 && seconds[letter] == into) seconds[letter] = from;
                loseSameSecond(letter);
            }
            return from;
        }

        /** Writes the codes of a name, each one once, to the row, and tells how many they are. */
        int writeCodes(long word, int length, int[] row) {
            int ways = waysToHear(word);
            int many = 0;
            for (int way = 0; way < ways; way++) {
                int code = codeByWay(word, length, way);
                boolean isNew = true;
                for (int i = 0; i < many && i < row.length; i++) {
                    if (row[i] == code) isNew = false;
                }
                if (isNew && many < row.length) {
                    row[many] = code;
                    many++;
                }
            }
            return many;
        }

        int waysToHear(long word) {
            int ways = 1;
            for (int place = 0; place < LETTERS_AT_MOST && ways < WAYS; place++) {
                int letter = Word.letterAt(word, place);
                if (!Word.isLetter(letter)) break;
                if (seconds[letter] != NONE && byHabit(word, place) == BY_CLASS) ways *= 2;
            }
            return ways;
        }

        int codeByWay(long word, int length, int way) {
            int code = 0;
            int size = 0;
            int ahead = SILENT;
            int waysLeft = way;
            for (int place = 0; place < LETTERS_AT_MOST && size < length; place++) {
                int letter = Word.letterAt(word, place);
                if (!Word.isLetter(letter)) break;
                int heard = byHabit(word, place);
                if (heard == BY_CLASS) {
                    boolean open = seconds[letter] != NONE;
                    heard = open && (waysLeft & 1) != 0 ? seconds[letter] : firsts[letter];
                    // The next bit of the way is that of the next open letter; behind the second one no bit is left.
                    if (open) waysLeft >>>= 1;
                }
                if (heard != SILENT && heard != ahead) {
                    code = Code.with(code, heard);
                    size++;
                }
                ahead = heard;
            }
            return code;
        }

        int byHabit(long word, int place) {
            if (habitSet == 0) return BY_CLASS;
            int letter = Word.letterAt(word, place);
            if (place == 0) return (habitSet & FIRST_BY_ITSELF) != 0 ? BY_ITSELF + letter : BY_CLASS;
            if (letter == H && (habitSet & SILENT_H) != 0) {
                int ahead = Word.letterAt(word, place - 1);
                if (ahead == C || ahead == P || ahead == S || ahead == T) return SILENT;
            }
            if (letter == S && (habitSet & SILENT_S) != 0) {
                if (Word.letterAt(word, place + 1) == Word.NO_LETTER) return SILENT;
            }
            return BY_CLASS;
        }
    }

    /** All that undo and restore bring back. */
    private static final class State {
        int codeLength = LENGTH_AT_FIRST;
        int nameLimit = NAMES_AT_MOST;
        int nameCount = 0;
        final long[] words = new long[NAMES_AT_MOST];
        int earCount = 0;
        final Ear[] ears = new Ear[EARS_AT_MOST];

        State() {
            for (int i = 0; i < ears.length; i++) ears[i] = new Ear();
        }

        void beAs(State other) {
            codeLength = other.codeLength;
            nameLimit = other.nameLimit;
            nameCount = other.nameCount;
            System.arraycopy(other.words, 0, words, 0, NAMES_AT_MOST);
            earCount = other.earCount;
            for (int i = 0; i < earCount && i < ears.length; i++) ears[i].beAs(other.ears[i]);
        }

        boolean hasName(int name) {
            return name >= 0 && name < nameCount && name < NAMES_AT_MOST;
        }

        boolean holds(long word) {
            for (int name = 0; name < nameCount; name++) {
                if (words[name] == word) return true;
            }
            return false;
        }

        void removeName(int name) {
            for (int i = name + 1; i < nameCount; i++) words[i - 1] = words[i];
            nameCount--;
        }

        int lettersInNames() {
            int letters = 0;
            for (int name = 0; name < nameCount; name++) letters |= Word.letterSet(words[name]);
            return letters;
        }

        /** The ear of that number, null if there is none. */
        Ear earAt(int ear) {
            if (ear < 0 || ear >= earCount || ear >= ears.length) return null;
            return ears[ear];
        }
    }

    /** The drawers of an ear: filled ahead of each question, since nearly every change makes other ones. */
    private static final class Drawers {
        static final int DRAWERS_AT_MOST = NAMES_AT_MOST * WAYS;

        int nameCount;
        final int[] codeCounts = new int[NAMES_AT_MOST];
        // The drawers of the codes of the name n stand from WAYS * n on.
        final int[] drawersOfNames = new int[DRAWERS_AT_MOST];
        int drawerCount;
        final int[] codes = new int[DRAWERS_AT_MOST];
        final int[] names = new int[DRAWERS_AT_MOST];
        final int[] row = new int[WAYS];

        void fill(State state, Ear listener) {
            nameCount = state.nameCount;
            drawerCount = 0;
            for (int name = 0; name < nameCount; name++) {
                int many = listener.writeCodes(state.words[name], state.codeLength, row);
                codeCounts[name] = many;
                for (int which = 0; which < many && which < WAYS; which++) {
                    int drawer = drawerFor(row[which]);
                    if (drawer >= DRAWERS_AT_MOST) continue;
                    names[drawer] |= 1 << name;
                    drawersOfNames[WAYS * name + which] = drawer;
                }
            }
        }

        /** The drawer with that code; a new one if there is none yet. */
        int drawerFor(int code) {
            int drawer = 0;
            while (drawer < drawerCount && codes[drawer] != code) drawer++;
            if (drawer == drawerCount && drawer < DRAWERS_AT_MOST) {
                drawerCount++;
                codes[drawer] = code;
                names[drawer] = 0;
            }
            return drawer;
        }

        int codesOf(int name) {
            return name >= 0 && name < nameCount ? codeCounts[name] : 0;
        }

        int drawerOf(int name, int which) {
            return which >= 0 && which < codesOf(name) ? drawersOfNames[WAYS * name + which] : 0;
        }

        int codeAt(int drawer) {
            return drawer >= 0 && drawer < drawerCount ? codes[drawer] : 0;
        }

        int namesAt(int drawer) {
            return drawer >= 0 && drawer < drawerCount ? names[drawer] : 0;
        }

        /** The drawer that has so many ahead of it by their codes. */
        int byCode(int rank) {
            for (int drawer = 0; drawer < drawerCount; drawer++) {
                int ahead = 0;
                for (int other = 0; other < drawerCount; other++) {
                    if (codes[other] < codes[drawer]) ahead++;
                }
                if (ahead == rank) return drawer;
            }
            return NONE;
        }

        int namesInFullest() {
            int most = 0;
            for (int drawer = 0; drawer < drawerCount; drawer++) {
                most = Math.max(most, Integer.bitCount(names[drawer]));
            }
            return most;
        }

        int namesInSeveral() {
            int several = 0;
            for (int name = 0; name < nameCount; name++) {
                if (codeCounts[name] > 1) several |= 1 << name;
            }
            return several;
        }

        /** The names that are heard like that one, itself too. */
        int namesLike(int name) {
            int like = 0;
            int many = codesOf(name);
            for (int which = 0; which < many; which++) like |= namesAt(drawerOf(name, which));
            return like;
        }

        /** The names that are heard like a word, which need not be a name. */
        int namesHeardLike(long word, State state, Ear listener) {
            int many = listener.writeCodes(word, state.codeLength, row);
            int like = 0;
            for (int drawer = 0; drawer < drawerCount; drawer++) {
                for (int which = 0; which < many && which < row.length; which++) {
                    if (row[which] == codes[drawer]) like |= names[drawer];
                }
            }
            return like;
        }

        int alikePairs() {
            int twice = 0;
            for (int name = 0; name < nameCount; name++) twice += Integer.bitCount(namesLike(name)) - 1;
            return twice / 2;
        }
    }

    /** Measures how far names are apart. */
    private static final class Meter {
        final int[] row = new int[LETTERS_AT_MOST + 1];
        final int[] distances = new int[NAMES_AT_MOST];

        /** The distance; the row holds those of one's first letters, so many as are gone through, to other's. */
        int between(long one, long other) {
            int height = Word.size(one);
            int width = Word.size(other);
            for (int j = 0; j <= width; j++) row[j] = j;
            for (int i = 1; i <= height; i++) {
                int corner = row[0];
                row[0] = i;
                for (int j = 1; j <= width; j++) {
                    int above = row[j];
                    boolean same = Word.letterAt(one, i - 1) == Word.letterAt(other, j - 1);
                    row[j] = Math.min(same ? corner : corner + 1, Math.min(above, row[j - 1]) + 1);
                    corner = above;
                }
            }
            return row[width];
        }

        /** The name among those that has so many of them nearer to the word, or as near and lower; NONE without one. */
        int ranked(State state, long word, int among, int rank) {
            for (int name = 0; name < state.nameCount; name++) distances[name] = between(word, state.words[name]);
            for (int name = 0; name < state.nameCount; name++) {
                if ((among & 1 << name) != 0 && namesAhead(name, state.nameCount, among) == rank) return name;
            }
            return NONE;
        }

        int namesAhead(int name, int nameCount, int among) {
            int ahead = 0;
            for (int other = 0; other < nameCount; other++) {
                if ((among & 1 << other) == 0) continue;
                if (distances[other] < distances[name]) ahead++;
                if (distances[other] == distances[name] && other < name) ahead++;
            }
            return ahead;
        }
    }

    /** The text from which names are told. */
    private static final class Pad {
        static final int BITS = 8;
        static final int MASK = 255;
        static final int MOST_AT_ONCE = 8;
        static final int FIRST_SIGN = 33, LAST_SIGN = 126;

        final char[] characters = new char[PAD_AT_MOST];
        int size = 0;

        /** How many characters the number tells, 0 if it is not well formed. */
        static int charactersIn(long number) {
            long left = number;
            int many = 0;
            while (many < MOST_AT_ONCE && (left & MASK) != 0) {
                long character = left & MASK;
                if (character < FIRST_SIGN || character > LAST_SIGN) return 0;
                left >>>= BITS;
                many++;
            }
            return left == 0 ? many : 0;
        }

        void append(long number, int many) {
            for (int i = many - 1; i >= 0 && size < PAD_AT_MOST; i--) {
                characters[size] = (char) (number >>> BITS * i & MASK);
                size++;
            }
        }

        int firstFault() {
            if (size == 0) return 0;
            for (int i = 0; i < size; i++) {
                if (i == LETTERS_AT_MOST || characters[i] < 'a' || characters[i] > 'z') return i;
            }
            return NONE;
        }

        /** The name that the pad tells; to be asked for only if there is no fault. */
        long asWord() {
            long word = 0;
            for (int i = 0; i < size && i < LETTERS_AT_MOST; i++) word = Word.with(word, i, characters[i] - 'a');
            return word;
        }
    }
}
