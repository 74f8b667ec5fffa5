import java.util.function.Supplier;

/** The terms of the document, sentence by sentence: conventions, settings, names and texts. */
final class TermsSentences {
    private static final int LENGTH = ConsonantIndex.LENGTH, NAMES = ConsonantIndex.NAMES;

    private TermsSentences() { }

    static void run() {
        Sentence.under("Terms");
        errorCodes();
        orderOfErrors();
        orderOfErrorsOfQuestions();
        errorsChangeNothing();
        noneIsNoError();
        numberedFromZero();
        setsAreMasks();
        Sentence.under("Settings");
        length();
        names();
        Sentence.under("Names");
        lettersOfNames();
        asManyAsNames();
        numbersOfNames();
        noTwoTheSame();
        distance();
        Sentence.under("Texts");
        longestPad();
        textsThatTellNames();
        fault();
        faultOfNothing();
        constants();
    }

    /** 24 names, 4 ears, 80 characters, and all that can be remembered. */
    private static Index full() {
        Index x = new Index();
        x.ear(Check.NONE);
        x.second(0, Check.letter('t'), 8);
        x.habits(0, 2);
        for (int i = 0; i < 6; i++) x.merge(0, 9 - i, 8 - i);
        x.save(0);
        for (int i = 0; i < 3; i++) x.ear(0);
        for (int i = 0; i < 23; i++) Check.addName(x, "t" + (char) ('a' + i) + "s");
        x.save(1);
        Check.addName(x, "last");
        for (int i = 0; i < 10; i++) x.put(Check.characters("abcdefgh"));
        return x;
    }

    /** One name, one ear with one merger, a pad that tells a name, a history of one state, one slot that is saved. */
    private static Index small() {
        Index x = Check.withNames("tas");
        x.ear(Check.NONE);
        x.merge(0, 1, 2);
        x.save(1);
        while (x.undo() > 0) continue;
        x.restore(1);
        Check.type(x, "das");
        return x;
    }

    private static void errorCodes() {
        Sentence.of("A method that fails returns one of the error codes NO_SUCH (-1), BAD_VALUE (-2), BAD_TEXT (-3), "
            + "TOO_MANY (-4) and NOT_POSSIBLE (-5);");
        Index x = new Index();
        Check.due("drop(0) without names", x.drop(0), -1);
        Check.due("set(0, 0)", x.set(0, 0), -2);
        Check.due("add() of nothing", x.add(), -3);
        for (int i = 0; i < 4; i++) x.ear(-6);
        Check.due("ear(-6), the fifth", x.ear(-6), -4);
        Check.due("split(0) without mergers", x.split(0), -5);
    }

    private static void due(Index x, String told, Sentence.Call call, int want) {
        Check.due(told, call.on(x), want);
    }

    private static void orderOfErrors() {
        Sentence.of("it names its errors in the order in which they are checked, and the first one that applies is "
            + "returned.");
        Index x = full();
        due(x, "add() of a fault, at the most names", y -> y.add(), Check.BAD_TEXT);
        due(x, "add() of a name that there is, at the most names", y -> Check.addName(y, "last"), Check.NOT_POSSIBLE);
        due(x, "ear(4), the fifth", y -> y.ear(4), Check.NO_SUCH);
        due(x, "ear(-1), the fifth", y -> y.ear(-1), Check.NO_SUCH);
        due(x, "hear(4, 0, 10)", y -> y.hear(4, 0, 10), Check.NO_SUCH);
        due(x, "hear(0, 26, 10)", y -> y.hear(0, 26, 10), Check.NO_SUCH);
        due(x, "hear(0, -1, -1)", y -> y.hear(0, -1, -1), Check.NO_SUCH);
        due(x, "second(4, 0, 10)", y -> y.second(4, 0, 10), Check.NO_SUCH);
        due(x, "second(0, 26, 10)", y -> y.second(0, 26, 10), Check.NO_SUCH);
        due(x, "second(4, 0, 0)", y -> y.second(4, 0, 0), Check.NO_SUCH);
        due(x, "second(0, 26, 0)", y -> y.second(0, 26, 0), Check.NO_SUCH);
        due(x, "second(-1, 0, NONE)", y -> y.second(-1, 0, Check.NONE), Check.NO_SUCH);
        due(x, "habits(4, 8)", y -> y.habits(4, 8), Check.NO_SUCH);
        due(x, "merge(4, 10, 1)", y -> y.merge(4, 10, 1), Check.NO_SUCH);
        due(x, "merge(4, 1, 1)", y -> y.merge(4, 1, 1), Check.NO_SUCH);
        due(new Index(), "split(0) without ears", y -> y.split(0), Check.NO_SUCH);
        x.wipe();
        for (int i = 0; i < 10; i++) x.put(Check.characters("abcdefgh"));
        due(x, "put(127) on a full pad", y -> y.put(127), Check.BAD_VALUE);
        due(x, "put(0) on a full pad", y -> y.put(0), Check.BAD_VALUE);
        due(new Index(), "restore(2), nothing saved", y -> y.restore(2), Check.BAD_VALUE);
        due(new Index(), "restore(-1), nothing saved", y -> y.restore(-1), Check.BAD_VALUE);
    }

    private static void orderOfErrorsOfQuestions() {
        Index x = small();
        due(x, "name(1, 12)", y -> y.name(1, 12), Check.NO_SUCH);
        due(x, "of(1, 0, 3)", y -> y.of(1, 0, 3), Check.NO_SUCH);
        due(x, "of(0, 26, 3)", y -> y.of(0, 26, 3), Check.NO_SUCH);
        due(x, "ofEar(1, 8)", y -> y.ofEar(1, 8), Check.NO_SUCH);
        due(x, "code(1, 0, 0, 7)", y -> y.code(1, 0, 0, 7), Check.NO_SUCH);
        due(x, "code(0, 1, 0, 7)", y -> y.code(0, 1, 0, 7), Check.NO_SUCH);
        due(x, "code(0, 0, 1, 7)", y -> y.code(0, 0, 1, 7), Check.NO_SUCH);
        due(x, "drawer(1, 0, 2)", y -> y.drawer(1, 0, 2), Check.NO_SUCH);
        due(x, "drawer(0, 1, 2)", y -> y.drawer(0, 1, 2), Check.NO_SUCH);
        due(x, "find(1, 0, 2)", y -> y.find(1, 0, 2), Check.NO_SUCH);
        due(x, "find(0, 1, 2)", y -> y.find(0, 1, 2), Check.NO_SUCH);
        due(x, "ifMerged(1, 1, 1, 0)", y -> y.ifMerged(1, 1, 1, 0), Check.NO_SUCH);
        due(x, "ifMerged(1, 1, 2, 2)", y -> y.ifMerged(1, 1, 2, 2), Check.NO_SUCH);
        due(x, "bestMerger(1, 3)", y -> y.bestMerger(1, 3), Check.NO_SUCH);
        x.put('!');
        due(x, "find(1, 0, 0) of a fault", y -> y.find(1, 0, 0), Check.BAD_TEXT);
        due(x, "find(0, 1, 0) of a fault", y -> y.find(0, 1, 0), Check.BAD_TEXT);
        due(x, "find(0, 0, 2) of a fault", y -> y.find(0, 0, 2), Check.BAD_TEXT);
    }

    private static void errorsChangeNothing() {
        Sentence.of("A call that returns an error changes nothing.");
        Supplier<Index> small = TermsSentences::small;
        Sentence.changesNothing(small, "set(LENGTH, 6)", x -> x.set(LENGTH, 6), Check.BAD_VALUE);
        Sentence.changesNothing(small, "set(NAMES, 25)", x -> x.set(NAMES, 25), Check.BAD_VALUE);
        Sentence.changesNothing(small, "set(2, 3)", x -> x.set(2, 3), Check.BAD_VALUE);
        Sentence.changesNothing(small, "drop(1)", x -> x.drop(1), Check.NO_SUCH);
        Sentence.changesNothing(small, "ear(1)", x -> x.ear(1), Check.NO_SUCH);
        Sentence.changesNothing(small, "hear(1, 0, 5)", x -> x.hear(1, 0, 5), Check.NO_SUCH);
        Sentence.changesNothing(small, "hear(0, 26, 5)", x -> x.hear(0, 26, 5), Check.NO_SUCH);
        Sentence.changesNothing(small, "hear(0, 0, 10)", x -> x.hear(0, 0, 10), Check.BAD_VALUE);
        Sentence.changesNothing(small, "second(1, 0, 5)", x -> x.second(1, 0, 5), Check.NO_SUCH);
        Sentence.changesNothing(small, "second(0, 26, 5)", x -> x.second(0, 26, 5), Check.NO_SUCH);
        Sentence.changesNothing(small, "second(0, 0, 10)", x -> x.second(0, 0, 10), Check.BAD_VALUE);
        Sentence.changesNothing(small, "second(0, 0, 0)", x -> x.second(0, 0, 0), Check.NOT_POSSIBLE);
        Sentence.changesNothing(small, "habits(1, 5)", x -> x.habits(1, 5), Check.NO_SUCH);
        Sentence.changesNothing(small, "habits(0, 8)", x -> x.habits(0, 8), Check.BAD_VALUE);
        Sentence.changesNothing(small, "merge(1, 3, 4)", x -> x.merge(1, 3, 4), Check.NO_SUCH);
        Sentence.changesNothing(small, "merge(0, 10, 4)", x -> x.merge(0, 10, 4), Check.BAD_VALUE);
        Sentence.changesNothing(small, "merge(0, 3, 10)", x -> x.merge(0, 3, 10), Check.BAD_VALUE);
        Sentence.changesNothing(small, "merge(0, 3, 3)", x -> x.merge(0, 3, 3), Check.BAD_VALUE);
        Sentence.changesNothing(small, "split(1)", x -> x.split(1), Check.NO_SUCH);
        Sentence.changesNothing(small, "restore(0), nothing saved", x -> x.restore(0), Check.NOT_POSSIBLE);
        Sentence.changesNothing(small, "restore(2)", x -> x.restore(2), Check.BAD_VALUE);
        Sentence.changesNothing(small, "save(2)", x -> x.save(2), Check.BAD_VALUE);
        Sentence.changesNothing(small, "save(-1)", x -> x.save(-1), Check.BAD_VALUE);
        Sentence.changesNothing(small, "put of a wrong last one", x -> x.put(0x616161617FL), Check.BAD_VALUE);
        Sentence.changesNothing(small, "put of a wrong first one", x -> x.put(0x7F61616161L), Check.BAD_VALUE);
        errorsChangeNothingInFull();
    }

    private static void errorsChangeNothingInFull() {
        Supplier<Index> full = TermsSentences::full;
        Sentence.changesNothing(full, "put(a) on a full pad", x -> x.put('a'), Check.TOO_MANY);
        Sentence.changesNothing(full, "add() of a fault", x -> x.add(), Check.BAD_TEXT);
        Sentence.changesNothing(full, "ear(0), the fifth", x -> x.ear(0), Check.TOO_MANY);
        Sentence.changesNothing(full, "find(0, 0, 0) of a fault", x -> x.find(0, 0, 0), Check.BAD_TEXT);
        Supplier<Index> fullOfNames = () -> {
            Index x = full();
            x.wipe();
            Check.type(x, "new");
            return x;
        };
        Sentence.changesNothing(fullOfNames, "add() at the most names", x -> x.add(), Check.TOO_MANY);
        Supplier<Index> known = () -> {
            Index x = small();
            x.wipe();
            Check.type(x, "tas");
            return x;
        };
        Sentence.changesNothing(known, "add() of a name that there is", x -> x.add(), Check.NOT_POSSIBLE);
        Supplier<Index> unmerged = () -> {
            Index x = new Index();
            x.ear(Check.NONE);
            x.save(0);
            return x;
        };
        Sentence.changesNothing(unmerged, "split(0) without mergers", x -> x.split(0), Check.NOT_POSSIBLE);
        Supplier<Index> undone = () -> {
            Index x = small();
            x.undo();
            return x;
        };
        Sentence.changesNothing(undone, "undo() without changes", x -> x.undo(), Check.NOT_POSSIBLE);
    }

    private static void noneIsNoError() {
        Sentence.of("NONE (-6) is not an error; it is returned only if no error applies.");
        Index x = small();
        Check.due("second(0, t, 9)", x.second(0, Check.letter('t'), 9), -6);
        Check.due("it is done", x.of(0, Check.letter('t'), 1), 9);
        Check.due("it is recorded", x.count(5), 2);
        Check.due("name(0, 4)", x.name(0, 4), -6);
        Check.due("name(1, 4)", x.name(1, 4), Check.NO_SUCH);
        Check.due("of(0, a, 1)", x.of(0, 0, 1), -6);
        Check.due("of(1, a, 1)", x.of(1, 0, 1), Check.NO_SUCH);
        Check.due("of(0, 26, 1)", x.of(0, 26, 1), Check.NO_SUCH);
        Check.due("code(0, 0, 0, 4)", x.code(0, 0, 0, 4), -6);
        Check.due("code(0, 0, 2, 4)", x.code(0, 0, 2, 4), Check.NO_SUCH);
        Check.due("code(0, 0, 0, -1)", x.code(0, 0, 0, -1), Check.BAD_VALUE);
        for (int kind = 2; kind < 10; kind++) x.merge(0, 1, kind);
        Check.due("bestMerger(0, 2)", x.bestMerger(0, 2), -6);
        Check.due("bestMerger(0, 3)", x.bestMerger(0, 3), Check.BAD_VALUE);
        Check.due("bestMerger(1, 2)", x.bestMerger(1, 2), Check.NO_SUCH);
        Check.due("fault() of none", x.fault(), -6);
        Check.due("deafest() without ears", new Index().deafest(), -6);
    }

    private static void numberedFromZero() {
        Sentence.of("Everything is numbered from 0.");
        Index x = new Index();
        Check.due("the first name", Check.addName(x, "tas"), 0);
        Check.due("the second name", Check.addName(x, "b"), 1);
        Check.due("the first ear", x.ear(Check.NONE), 0);
        Check.due("the second ear", x.ear(Check.NONE), 1);
        Check.due("the first drawer, of the first name's first code", x.code(0, 0, 0, 6), 0);
        Check.due("the number at the code's first place", x.code(0, 0, 0, 0), 3);
        Check.due("the first drawer", x.drawer(0, 0, 0), 1);
        Check.due("the first slot", x.save(0), 2);
        Check.type(x, "tos");
        Check.due("the first one found", x.find(0, 0, 0), 0);
        x.put('!');
        Check.due("the fourth character", x.fault(), 3);
        Check.due("the letter a", x.of(0, 0, 0), 0);
        Check.due("the letter b", x.of(0, 1, 0), 1);
    }

    private static void setsAreMasks() {
        Sentence.of("Sets of letters, names and ears are bit masks (the letter a is the lowest bit).");
        Index x = Check.withNames("a", "z", "bz", "t");
        x.ear(Check.NONE);
        int[] sets = {1, 33554432, 33554434, 524288};
        for (int name = 0; name < 4; name++) Check.due("name(" + name + ", 11)", x.name(name, 11), sets[name]);
        Check.due("count(6)", x.count(6), 1 + 2 + 524288 + 33554432);
        Check.due("of(0, t, 2)", x.of(0, 19, 2), 8 + 524288);
        Check.due("drawer(0, 0, 0)", x.drawer(0, 0, 0), 1);
        Check.due("drawer(0, 3, 0)", x.drawer(0, 3, 0), 8);
        x.second(0, 25, 9);
        Check.due("ofEar(0, 4)", x.ofEar(0, 4), 2 + 4);
        Check.due("ofEar(0, 6)", x.ofEar(0, 6), 33554432);
    }

    private static void length() {
        Sentence.of("(In parentheses: range; first value.) LENGTH (1 to 5; 4): the greatest length of a code;");
        Index x = Check.withNames("bcdlmr", "bc");
        x.ear(Check.NONE);
        Check.due("the first value", x.count(2), 4);
        Check.due("the first value", Check.codes(x, 0, 0), "1 2 3 4");
        Check.due("one too small", x.set(LENGTH, 0), Check.BAD_VALUE);
        Check.due("one too large", x.set(LENGTH, 6), Check.BAD_VALUE);
        Check.due("below 0", x.set(LENGTH, -4), Check.BAD_VALUE);
        int before = 4;
        String[] codes = {"1", "1 2", "1 2 3", "1 2 3 4", "1 2 3 4 5"};
        String[] shorter = {"1", "1 2", "1 2", "1 2", "1 2"};
        for (int value = 1; value <= 5; value++) {
            Check.due("set(LENGTH, " + value + ")", x.set(LENGTH, value), before);
            Check.due("count(2)", x.count(2), value);
            Check.due("of 6 classes", Check.codes(x, 0, 0), codes[value - 1]);
            Check.due("of 2 classes", Check.codes(x, 0, 1), shorter[value - 1]);
            before = value;
        }
    }

    private static void names() {
        Sentence.of("NAMES (1 to 24; 24): names that there may be.");
        Index x = new Index();
        Check.due("the first value", x.count(3), 24);
        Check.due("one too small", x.set(NAMES, 0), Check.BAD_VALUE);
        Check.due("one too large", x.set(NAMES, 25), Check.BAD_VALUE);
        Check.due("below 0", x.set(NAMES, -24), Check.BAD_VALUE);
        int before = 24;
        for (int value = 1; value <= 24; value++) {
            Check.due("set(NAMES, " + value + ")", x.set(NAMES, value), before);
            Check.due("count(3)", x.count(3), value);
            Check.due("the last one that may be", Check.addName(x, "n" + (char) ('a' + value)), value - 1);
            Check.due("one more", Check.addName(x, "more"), Check.TOO_MANY);
            before = value;
        }
    }

    private static void lettersOfNames() {
        Sentence.of("A name has 1 to 10 letters, a to z, told as 0 to 25.");
        Index x = Check.withNames("abcdefghij", "klmnopqrst", "uvwxyz");
        for (int letter = 0; letter < 26; letter++) {
            Check.due("letter " + letter, x.name(letter / 10, letter % 10 + 1), letter);
        }
        Check.due("ten letters", x.name(0, 0), 10);
        Check.due("one letter", Check.addName(x, "z"), 3);
        Check.due("one letter", x.name(3, 0), 1);
        Check.due("no letter", Check.addName(x, ""), Check.BAD_TEXT);
        Check.due("eleven letters", Check.addName(x, "abcdefghijk"), Check.BAD_TEXT);
        for (String other : new String[] {"`", "{", "A", "Z", "0", "-", "'"}) {
            Check.due("add() of " + other, Check.addName(x, other), Check.BAD_TEXT);
            Check.due("add() of a" + other, Check.addName(x, "a" + other), Check.BAD_TEXT);
        }
    }

    private static void asManyAsNames() {
        Sentence.of("There are up to NAMES names,");
        for (int most = 1; most <= 24; most++) {
            Index x = new Index();
            x.set(NAMES, most);
            for (int i = 0; i < most; i++) Check.due("add()", Check.addName(x, "n" + (char) ('a' + i)), i);
            Check.due("add() of one more than " + most, Check.addName(x, "more"), Check.TOO_MANY);
            Check.due("count(0)", x.count(0), most);
        }
    }

    private static void namesDue(Index x, String... names) {
        Check.due("count(0)", x.count(0), names.length);
        for (int i = 0; i < names.length; i++) Check.due("name " + i, Check.nameAt(x, i), names[i]);
        Check.due("name(" + names.length + ", 0)", x.name(names.length, 0), Check.NO_SUCH);
    }

    private static void numbersOfNames() {
        Sentence.of("numbered in the order in which they came (when one is dropped, those behind it have numbers that are "
            + "less by 1),");
        Index x = Check.withNames("zoe", "ada", "mia", "ben", "ida");
        namesDue(x, "zoe", "ada", "mia", "ben", "ida");
        x.drop(2);
        namesDue(x, "zoe", "ada", "ben", "ida");
        x.drop(3);
        namesDue(x, "zoe", "ada", "ben");
        x.drop(0);
        namesDue(x, "ada", "ben");
        Check.addName(x, "zoe");
        namesDue(x, "ada", "ben", "zoe");
        Index full = full();
        full.drop(0);
        for (int i = 0; i < 22; i++) Check.due("name " + i, Check.nameAt(full, i), "t" + (char) ('b' + i) + "s");
        Check.due("name 22", Check.nameAt(full, 22), "last");
        Check.due("name(23, 0)", full.name(23, 0), Check.NO_SUCH);
    }

    private static void noTwoTheSame() {
        Sentence.of("no two the same.");
        Index x = Check.withNames("ada", "ad", "adaa", "abcdefghij");
        namesDue(x, "ada", "ad", "adaa", "abcdefghij");
        for (String name : new String[] {"ada", "ad", "adaa", "abcdefghij"}) {
            Check.due("add() of " + name + " again", Check.addName(x, name), Check.NOT_POSSIBLE);
        }
        Check.due("the same but for the last letter", Check.addName(x, "abcdefghik"), 4);
        Check.due("the same but for the first letter", Check.addName(x, "bbcdefghij"), 5);
        Check.due("the same but for the order", Check.addName(x, "daa"), 6);
        x.drop(0);
        Check.due("add() of one that was dropped", Check.addName(x, "ada"), 6);
        Check.due("and again", Check.addName(x, "ada"), Check.NOT_POSSIBLE);
    }

    private static void distanceDue(String one, String other, int want) {
        Index x = Check.withNames(one, other);
        Check.due(one + " to " + other, x.distance(0, 1), want);
        Check.due(other + " to " + one, x.distance(1, 0), want);
    }

    private static void distance() {
        Sentence.of("The distance of two names is the least number of letters that must be put in, left out, or changed, one "
            + "by one, to make one of the other.");
        distanceDue("ab", "xab", 1);
        distanceDue("ab", "axb", 1);
        distanceDue("ab", "abx", 1);
        distanceDue("ab", "xb", 1);
        distanceDue("ab", "ax", 1);
        distanceDue("ab", "ba", 2);
        distanceDue("abc", "ca", 3);
        distanceDue("abcd", "bcda", 2);
        distanceDue("kitten", "sitting", 3);
        distanceDue("saturday", "sunday", 3);
        distanceDue("a", "abcdefghij", 9);
        distanceDue("j", "abcdefghij", 9);
        distanceDue("z", "abcdefghij", 10);
        distanceDue("aaaaaaaaaa", "bbbbbbbbbb", 10);
        distanceDue("abcdefghij", "bcdefghijk", 2);
        distanceDue("abcdefghij", "jihgfedcba", 10);
        distanceDue("ababababab", "bababababa", 2);
        Index x = Check.withNames("abcdefghij");
        Check.due("a name to itself", x.distance(0, 0), 0);
    }

    private static void longestPad() {
        Sentence.of("The pad is a text of at most 80 characters.");
        Index x = new Index();
        for (int i = 1; i <= 80; i++) Check.due("put(~)", x.put('~'), i);
        Check.due("put(~), the 81st", x.put('~'), Check.TOO_MANY);
        Check.due("count(4)", x.count(4), 80);
        x.wipe();
        for (int i = 1; i <= 10; i++) Check.due("put of eight", x.put(Check.characters("~~~~~~~~")), 8 * i);
        Check.due("put of eight, the eleventh", x.put(Check.characters("~~~~~~~~")), Check.TOO_MANY);
    }

    private static void textsThatTellNames() {
        Sentence.of("It tells a name if it has 1 to 10 characters, each a to z.");
        StringBuilder text = new StringBuilder();
        for (int size = 1; size <= 10; size++) {
            text.append((char) ('z' + 1 - size));
            Index x = new Index();
            Check.due("add() of " + text, Check.addName(x, text.toString()), 0);
            Check.due("the name", Check.nameAt(x, 0), text.toString());
        }
        for (int code = 33; code <= 126; code++) {
            Index x = new Index();
            x.put(code);
            Check.due("add() of the character " + code, x.add(), code >= 'a' && code <= 'z' ? 0 : Check.BAD_TEXT);
        }
        Index x = new Index();
        Check.due("add() of none", x.add(), Check.BAD_TEXT);
        Check.due("add() of eleven", Check.addName(x, "abcdefghijk"), Check.BAD_TEXT);
        for (int i = 0; i < 10; i++) x.put(Check.characters("abcdefgh"));
        Check.due("add() of eighty", x.add(), Check.BAD_TEXT);
    }

    private static void faultDue(String text, int want) {
        Index x = new Index();
        Check.type(x, text);
        Check.due("fault() of " + text, x.fault(), want);
    }

    private static void fault() {
        Sentence.of("The fault is the index of the first character that is none of these, or the eleventh one (10);");
        for (int place = 0; place < 10; place++) {
            StringBuilder text = new StringBuilder("aaaaaaaaaa");
            text.setCharAt(place, 'A');
            faultDue(text.toString(), place);
            faultDue(text.substring(0, place + 1), place);
            faultDue(text + "zz", place);
            faultDue(text.substring(0, place + 1) + "!!!!!!!!!!!!", place);
        }
        faultDue("aaaaaaaaaaa", 10);
        faultDue("aaaaaaaaaaA", 10);
        faultDue("aaaaaaaaaaaA", 10);
        faultDue("aaaaaaaaaa" + "aaaaaaaaaaaaaaaaaaaaaaaaaaaaaaaaaaaaaaaaaaaaaaaaaaaaaaaaaaaaaaaaaaaaaa", 10);
        faultDue("aaaaaaaaaa", Check.NONE);
        faultDue("`", 0);
        faultDue("a`", 1);
        faultDue("{", 0);
        faultDue("z{", 1);
    }

    private static void faultOfNothing() {
        Sentence.of("if there is none, and the text is empty, it is 0.");
        Index x = new Index();
        Check.due("fault() of a new object", x.fault(), 0);
        x.put('!');
        x.wipe();
        Check.due("fault() behind wipe()", x.fault(), 0);
        x.put('a');
        Check.due("fault() of a", x.fault(), Check.NONE);
        x.add();
        Check.due("fault() behind add()", x.fault(), 0);
    }

    private static void constants() {
        Sentence.of("The constants: NO_SUCH = -1, BAD_VALUE = -2, BAD_TEXT = -3, TOO_MANY = -4, NOT_POSSIBLE = -5, "
            + "NONE = -6: Error codes, and NONE: there is none.");
        Check.due("NO_SUCH", ConsonantIndex.NO_SUCH, -1);
        Check.due("BAD_VALUE", ConsonantIndex.BAD_VALUE, -2);
        Check.due("BAD_TEXT", ConsonantIndex.BAD_TEXT, -3);
        Check.due("TOO_MANY", ConsonantIndex.TOO_MANY, -4);
        Check.due("NOT_POSSIBLE", ConsonantIndex.NOT_POSSIBLE, -5);
        Check.due("NONE", ConsonantIndex.NONE, -6);
        Sentence.of("LENGTH = 0, NAMES = 1: Settings.");
        Check.due("LENGTH", ConsonantIndex.LENGTH, 0);
        Check.due("NAMES", ConsonantIndex.NAMES, 1);
        Index x = new Index();
        x.set(0, 3);
        x.set(1, 5);
        Check.due("count(2)", x.count(2), 3);
        Check.due("count(3)", x.count(3), 5);
    }
}
