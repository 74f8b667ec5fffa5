import java.util.function.Supplier;

/** Promises 1 to 10, sentence by sentence. */
final class ChangesSentences {
    private static final int LENGTH = ConsonantIndex.LENGTH, NAMES = ConsonantIndex.NAMES;
    private static final int A = 0, B = 1, C = 2, L = 11, M = 12, R = 17, S = 18, T = 19, Z = 25;
    private static final int[] NO_EARS_OF_TWO = {-1, 2, 3, 4, -6, -2, 256, 1 << 16, Integer.MIN_VALUE, Integer.MAX_VALUE};

    private ChangesSentences() { }

    static void run() {
        newObject();
        set();
        add();
        addErrors();
        drop();
        ear();
        earErrors();
        hear();
        second();
        habits();
        merge();
        mergeErrors();
        split();
    }

    /** Two ears, the second one with all that an ear can have; names on the way; fewer changes than the history keeps. */
    private static Index some() {
        Index x = Check.withNames("tas", "bola");
        x.ear(Check.NONE);
        x.ear(Check.NONE);
        x.hear(1, A, 7);
        x.second(1, T, 9);
        x.habits(1, 1);
        x.merge(1, 4, 5);
        x.save(0);
        while (x.undo() > 0) continue;
        x.restore(0);
        return x;
    }

    private static void newObject() {
        Sentence.under("Promise 1: A new object");
        Sentence.of("Creates an index without names and ears.");
        Index x = new Index();
        Check.due("names", x.count(0), 0);
        Check.due("ears", x.count(1), 0);
        Check.due("the pad", x.count(4), 0);
        Check.due("changes", x.count(5), 0);
        Check.due("letters", x.count(6), 0);
        Check.due("name(0, 0)", x.name(0, 0), Check.NO_SUCH);
        Check.due("ofEar(0, 0)", x.ofEar(0, 0), Check.NO_SUCH);
        Check.due("undo()", x.undo(), Check.NOT_POSSIBLE);
        Check.due("restore(0)", x.restore(0), Check.NOT_POSSIBLE);
        Check.due("restore(1)", x.restore(1), Check.NOT_POSSIBLE);
    }

    private static void set() {
        Sentence.under("Promise 2: set");
        Sentence.of("Changes a setting (names that there are stay).");
        Index x = Check.withNames("bcdlm", "ada", "zoe");
        x.ear(Check.NONE);
        x.set(NAMES, 1);
        Check.due("names", x.count(0), 3);
        Check.due("the last one", Check.nameAt(x, 2), "zoe");
        Check.due("count(3)", x.count(3), 1);
        Check.due("count(2)", x.count(2), 4);
        x.set(LENGTH, 2);
        Check.due("count(2)", x.count(2), 2);
        Check.due("count(3)", x.count(3), 1);
        Check.due("a code", Check.codes(x, 0, 0), "1 2");
        Sentence.of("This is a change.");
        Sentence.isChange(ChangesSentences::some, "set(LENGTH, 5)", y -> y.set(LENGTH, 5), 4);
        Sentence.isChange(ChangesSentences::some, "set(NAMES, 1)", y -> y.set(NAMES, 1), 24);
        Sentence.isChange(ChangesSentences::some, "set(NAMES, 24)", y -> y.set(NAMES, 24), 24);
        Sentence.of("Returns the previous value;");
        Index z = new Index();
        int[] lengths = {4, 5, 1, 1, 3};
        for (int i = 1; i < lengths.length; i++) Check.due("LENGTH", z.set(LENGTH, lengths[i]), lengths[i - 1]);
        int[] names = {24, 1, 23, 23, 24, 2};
        for (int i = 1; i < names.length; i++) Check.due("NAMES", z.set(NAMES, names[i]), names[i - 1]);
        Sentence.of("BAD_VALUE if there is no such setting, or the value is out of its range.");
        Check.dueForAll("setting", Check.outside(0, 1), n -> z.set(n, 3), Check.BAD_VALUE);
        Check.dueForAll("LENGTH", Check.outside(1, 5), n -> z.set(LENGTH, n), Check.BAD_VALUE);
        Check.dueForAll("NAMES", Check.outside(1, 24), n -> z.set(NAMES, n), Check.BAD_VALUE);
        Check.due("LENGTH, what only NAMES may be", z.set(LENGTH, 24), Check.BAD_VALUE);
        Check.due("count(2)", z.count(2), 3);
        Check.due("count(3)", z.count(3), 2);
    }

    private static void add() {
        Sentence.under("Promise 3: add");
        Sentence.of("The name that the pad tells comes, and the pad is emptied.");
        Index x = new Index();
        x.put(Check.characters("abcdefgh"));
        x.put(Check.characters("ij"));
        Check.due("add()", x.add(), 0);
        Check.due("the name", Check.nameAt(x, 0), "abcdefghij");
        Check.due("the pad", x.count(4), 0);
        Check.due("its fault", x.fault(), 0);
        x.put('k');
        Check.due("add()", x.add(), 1);
        Check.due("the name", Check.nameAt(x, 1), "k");
        Check.due("the name before", Check.nameAt(x, 0), "abcdefghij");
        Sentence.of("This is a change.");
        Supplier<Index> typed = () -> {
            Index y = some();
            Check.type(y, "mia");
            return y;
        };
        Sentence.isChange(typed, "add()", y -> y.add(), 2);
        Sentence.of("Returns its number;");
        Index z = new Index();
        for (int i = 0; i < 24; i++) Check.due("add()", Check.addName(z, "" + (char) ('z' - i)), i);
        z.drop(11);
        Check.due("add() where one was dropped", Check.addName(z, "new"), 23);
    }

    private static void addErrors() {
        Sentence.of("BAD_TEXT if the pad has a fault;");
        Index x = Check.withNames("ada", "zoe");
        Check.due("add() of nothing", Check.addName(x, ""), Check.BAD_TEXT);
        for (String text : new String[] {"A", "adA", "!ada", "ada_", "abcdefghijk", "abcdefghi~", "~~~~~~~~~~~~"}) {
            Check.due("add() of " + text, Check.addName(x, text), Check.BAD_TEXT);
            Check.due("the pad stays", x.count(4), text.length());
        }
        Check.due("names", x.count(0), 2);
        Sentence.of("NOT_POSSIBLE if there is such a name;");
        Check.due("the first one", Check.addName(x, "ada"), Check.NOT_POSSIBLE);
        Check.due("the pad stays", x.count(4), 3);
        Check.due("the last one", Check.addName(x, "zoe"), Check.NOT_POSSIBLE);
        Check.due("a part of one", Check.addName(x, "zo"), 2);
        Check.due("one with an end", Check.addName(x, "zoea"), 3);
        x.set(NAMES, 4);
        Check.due("at the most names", Check.addName(x, "ada"), Check.NOT_POSSIBLE);
        Sentence.of("TOO_MANY if there are NAMES names, or more.");
        Check.due("as many", Check.addName(x, "more"), Check.TOO_MANY);
        Check.due("the pad stays", x.count(4), 4);
        x.set(NAMES, 3);
        Check.due("one more", x.add(), Check.TOO_MANY);
        x.set(NAMES, 1);
        Check.due("three more", x.add(), Check.TOO_MANY);
        x.set(NAMES, 5);
        Check.due("one less", x.add(), 4);
        Check.due("as many again", Check.addName(x, "most"), Check.TOO_MANY);
        x.drop(0);
        Check.due("one less behind drop", Check.addName(x, "most"), 4);
    }

    private static void drop() {
        Sentence.under("Promise 4: drop");
        Sentence.of("A name is dropped.");
        for (int dropped = 0; dropped < 4; dropped++) {
            Index x = Check.withNames("ada", "bo", "cleo", "di");
            x.ear(Check.NONE);
            String[] names = {"ada", "bo", "cleo", "di"};
            x.drop(dropped);
            Check.due("names", x.count(0), 3);
            for (int i = 0; i < 3; i++) Check.due("name " + i, Check.nameAt(x, i), names[i < dropped ? i : i + 1]);
            Check.due("name(3, 0)", x.name(3, 0), Check.NO_SUCH);
            Check.due("add() of it", Check.addName(x, names[dropped]), 3);
        }
        Sentence.of("This is a change.");
        Sentence.isChange(ChangesSentences::some, "drop(0)", y -> y.drop(0), 1);
        Sentence.isChange(ChangesSentences::some, "drop(1)", y -> y.drop(1), 1);
        Sentence.of("Returns how many names are left;");
        Index x = new Index();
        for (int i = 0; i < 24; i++) Check.addName(x, "n" + (char) ('a' + i));
        for (int left = 23; left >= 0; left--) Check.due("drop", x.drop(left / 2), left);
        Sentence.of("NO_SUCH if there is no such name.");
        Check.due("drop(0) without names", x.drop(0), Check.NO_SUCH);
        Index two = some();
        Check.dueForAll("drop", Check.outside(0, 1), two::drop, Check.NO_SUCH);
        Check.due("drop(NONE)", two.drop(Check.NONE), Check.NO_SUCH);
        Check.due("drop(23)", two.drop(23), Check.NO_SUCH);
        Check.due("names", two.count(0), 2);
    }

    private static void ear() {
        Sentence.under("Promise 5: ear");
        Sentence.of("An ear comes.");
        Index x = new Index();
        x.ear(Check.NONE);
        Check.due("ears", x.count(1), 1);
        Check.due("class of t", x.of(0, T, 0), 3);
        Sentence.of("This is a change.");
        Sentence.isChange(ChangesSentences::some, "ear(NONE)", y -> y.ear(Check.NONE), 2);
        Sentence.isChange(ChangesSentences::some, "ear(1)", y -> y.ear(1), 2);
        Sentence.of("as: an ear: it has its classes, second ones too, habits and mergers; or NONE: it is as ears are at first");
        Index y = some();
        y.ear(1);
        y.ear(Check.NONE);
        for (int letter = 0; letter < 26; letter++) {
            for (int what = 0; what < 3; what++) {
                Check.due("as ear 1", y.of(2, letter, what), y.of(1, letter, what));
                Check.due("as at first", y.of(3, letter, what), y.of(0, letter, what));
            }
        }
        Check.due("the class of a as ear 1", y.of(2, A, 0), 7);
        Check.due("the second class of t as ear 1", y.of(2, T, 1), 9);
        Check.due("habits as ear 1", y.ofEar(2, 0), 1);
        Check.due("habits as at first", y.ofEar(3, 0), 0);
        Check.due("mergers as ear 1", y.ofEar(2, 1), 1);
        Check.due("mergers as at first", y.ofEar(3, 1), 0);
        Check.due("split as ear 1", y.split(2), 5);
        Check.due("class of m then", y.of(2, M, 0), 5);
        Check.due("class of l then", y.of(2, L, 0), 4);
        Check.due("mergers of ear 1", y.ofEar(1, 1), 1);
        Check.due("class of m of ear 1", y.of(1, M, 0), 4);
        Check.due("split as at first", y.split(3), Check.NOT_POSSIBLE);
        y.hear(1, Z, 8);
        Check.due("class of z, which only ear 1 has", y.of(2, Z, 0), 2);
        mergersOfEar();
    }

    /** An ear comes where one with other mergers was undone. */
    private static void mergersOfEar() {
        Index x = new Index();
        x.ear(Check.NONE);
        x.second(0, A, 6);
        x.second(0, S, 9);
        x.merge(0, 3, 6);
        x.merge(0, 8, 9);
        x.ear(Check.NONE);
        x.merge(1, 1, 4);
        x.merge(1, 5, 2);
        x.undo();
        x.undo();
        x.undo();
        x.ear(0);
        x.split(0);
        x.merge(0, 7, 4);
        Check.due("split(1)", x.split(1), 9);
        Check.due("second class of s", x.of(1, S, 1), 9);
        Check.due("second class of a", x.of(1, A, 1), 3);
        Check.due("split(1)", x.split(1), 6);
        Check.due("class of r", x.of(1, R, 0), 6);
        Check.due("second class of a", x.of(1, A, 1), 6);
        Check.due("class of l", x.of(1, L, 0), 4);
        Check.due("class of c", x.of(1, C, 0), 2);
        Check.due("split(1)", x.split(1), Check.NOT_POSSIBLE);
    }

    private static void earErrors() {
        Sentence.of("Returns its number;");
        Index x = new Index();
        Check.due("ear(NONE)", x.ear(Check.NONE), 0);
        Check.due("ear(0)", x.ear(0), 1);
        Check.due("ear(NONE)", x.ear(Check.NONE), 2);
        Check.due("ear(2)", x.ear(2), 3);
        Sentence.of("NO_SUCH if there is no such ear;");
        Index none = new Index();
        Check.due("ear(0) without ears", none.ear(0), Check.NO_SUCH);
        Check.due("ear(-1) without ears", none.ear(-1), Check.NO_SUCH);
        Index two = some();
        for (int as : NO_EARS_OF_TWO) {
            if (as != Check.NONE) Check.due("ear(" + as + ")", two.ear(as), Check.NO_SUCH);
        }
        for (int as = -7; as < 0; as++) {
            if (as != Check.NONE) Check.due("ear(" + as + ")", two.ear(as), Check.NO_SUCH);
        }
        Check.due("ears", two.count(1), 2);
        Check.due("ear(4) of four", x.ear(4), Check.NO_SUCH);
        Sentence.of("TOO_MANY if there are 4 ears.");
        Check.due("ear(NONE)", x.ear(Check.NONE), Check.TOO_MANY);
        for (int as = 0; as < 4; as++) Check.due("ear(" + as + ")", x.ear(as), Check.TOO_MANY);
        Check.due("ears", x.count(1), 4);
        x.undo();
        Check.due("ear(NONE) of three", x.ear(Check.NONE), 3);
    }

    private static void hear() {
        Sentence.under("Promise 6: hear");
        Sentence.of("Changes the class of a letter.");
        Index x = some();
        x.hear(0, T, 6);
        Check.due("class of t", x.of(0, T, 0), 6);
        Check.due("class of d", x.of(0, 3, 0), 3);
        Check.due("class of t of the other ear", x.of(1, T, 0), 3);
        Check.due("code of tas", Check.codes(x, 0, 0), "6 2");
        Sentence.of("This is a change.");
        Sentence.isChange(ChangesSentences::some, "hear(1, t, 9)", y -> y.hear(1, T, 9), 3);
        Sentence.isChange(ChangesSentences::some, "hear(0, t, 3)", y -> y.hear(0, T, 3), 3);
        Sentence.of("letter: 0 to 25");
        Check.due("hear(0, a, 9)", x.hear(0, 0, 9), 0);
        Check.due("hear(0, z, 9)", x.hear(0, 25, 9), 2);
        Check.due("hear(0, -1, 9)", x.hear(0, -1, 9), Check.NO_SUCH);
        Check.due("hear(0, 26, 9)", x.hear(0, 26, 9), Check.NO_SUCH);
        Check.due("letters of the class", x.of(0, 0, 2), Check.letters("az"));
        Sentence.of("kind: 0 to 9");
        for (int kind = 0; kind <= 9; kind++) {
            Check.due("hear(0, b, " + kind + ")", x.hear(0, B, kind), kind == 0 ? 1 : kind - 1);
            Check.due("class of b", x.of(0, B, 0), kind);
        }
        Sentence.of("Returns the previous class;");
        Check.due("hear(0, b, 4)", x.hear(0, B, 4), 9);
        Check.due("hear(0, b, 4)", x.hear(0, B, 4), 4);
        Check.due("hear(0, b, 0)", x.hear(0, B, 0), 4);
        Check.due("hear(0, b, 1)", x.hear(0, B, 1), 0);
        x.merge(0, 7, 1);
        Check.due("hear(0, b, 1) behind a merger", x.hear(0, B, 1), 7);
        Sentence.of("NO_SUCH if there is no such ear or letter;");
        Check.dueForAll("ear", NO_EARS_OF_TWO, n -> x.hear(n, T, 5), Check.NO_SUCH);
        Check.dueForAll("letter", Check.outside(0, 25), n -> x.hear(0, n, 5), Check.NO_SUCH);
        Check.dueForAll("ear without ears", new int[] {0, 1, -1}, n -> new Index().hear(n, T, 5), Check.NO_SUCH);
        Sentence.of("BAD_VALUE if kind is out of range.");
        Check.dueForAll("kind", Check.outside(0, 9), n -> x.hear(0, T, n), Check.BAD_VALUE);
        Check.due("kind NONE", x.hear(0, T, Check.NONE), Check.BAD_VALUE);
        Check.due("class of t", x.of(0, T, 0), 6);
    }

    private static void second() {
        Sentence.under("Promise 7: second");
        Sentence.of("Changes the second class of a letter.");
        Index x = some();
        x.second(0, T, 6);
        Check.due("second class of t", x.of(0, T, 1), 6);
        Check.due("class of t", x.of(0, T, 0), 3);
        Check.due("second class of t of the other ear", x.of(1, T, 1), 9);
        Check.due("letters with a second class", x.ofEar(0, 6), Check.letters("t"));
        Check.due("codes of tas", Check.codes(x, 0, 0), "3 2, 6 2");
        Sentence.of("This is a change.");
        Sentence.isChange(ChangesSentences::some, "second(0, t, 9)", y -> y.second(0, T, 9), Check.NONE);
        Sentence.isChange(ChangesSentences::some, "second(1, t, NONE)", y -> y.second(1, T, Check.NONE), 9);
        Sentence.isChange(ChangesSentences::some, "second(1, t, 9)", y -> y.second(1, T, 9), 9);
        Sentence.isChange(ChangesSentences::some, "second(0, t, NONE)", y -> y.second(0, T, Check.NONE), Check.NONE);
        Sentence.of("kind: 0 to 9, or NONE: it has none");
        for (int kind = 0; kind <= 9; kind++) {
            if (kind == 1) continue;
            int before = kind == 0 ? Check.NONE : kind == 2 ? 0 : kind - 1;
            Check.due("second(0, b, " + kind + ")", x.second(0, B, kind), before);
            Check.due("second class of b", x.of(0, B, 1), kind);
        }
        Check.due("second(0, b, NONE)", x.second(0, B, Check.NONE), 9);
        Check.due("second class of b", x.of(0, B, 1), Check.NONE);
        Check.due("letters with a second class", x.ofEar(0, 6), Check.letters("t"));
        Sentence.of("Returns the previous one (NONE);");
        Check.due("second(0, a, 4)", x.second(0, A, 4), Check.NONE);
        Check.due("second(0, a, 4)", x.second(0, A, 4), 4);
        Check.due("second(0, a, NONE)", x.second(0, A, Check.NONE), 4);
        Check.due("second(0, a, NONE)", x.second(0, A, Check.NONE), Check.NONE);
        x.second(0, A, 4);
        x.hear(0, A, 4);
        Check.due("second(0, a, 5) where it is gone", x.second(0, A, 5), Check.NONE);
        Sentence.of("NO_SUCH if there is no such ear or letter;");
        Check.dueForAll("ear", NO_EARS_OF_TWO, n -> x.second(n, T, 5), Check.NO_SUCH);
        Check.dueForAll("letter", Check.outside(0, 25), n -> x.second(0, n, 5), Check.NO_SUCH);
        Check.dueForAll("ear without ears", new int[] {0, 1, -1}, n -> new Index().second(n, T, 5), Check.NO_SUCH);
        Sentence.of("BAD_VALUE if kind is out of range;");
        Check.dueForAll("kind", Check.outside(0, 9), n -> x.second(0, T, n), Check.BAD_VALUE);
        for (int kind = -9; kind < 0; kind++) {
            if (kind != Check.NONE) Check.due("kind " + kind, x.second(0, T, kind), Check.BAD_VALUE);
        }
        Sentence.of("NOT_POSSIBLE if it is the class of the letter.");
        Check.due("second(0, t, 3)", x.second(0, T, 3), Check.NOT_POSSIBLE);
        Check.due("second class of t", x.of(0, T, 1), 6);
        Check.due("second(0, e, 0)", x.second(0, 4, 0), Check.NOT_POSSIBLE);
        x.hear(0, T, 9);
        Check.due("second(0, t, 9)", x.second(0, T, 9), Check.NOT_POSSIBLE);
        Check.due("second(0, t, 3)", x.second(0, T, 3), 6);
        x.merge(0, 8, 2);
        Check.due("second(0, z, 8)", x.second(0, Z, 8), Check.NOT_POSSIBLE);
        Check.due("second(0, z, 2)", x.second(0, Z, 2), Check.NONE);
    }

    private static void habits() {
        Sentence.under("Promise 8: habits");
        Sentence.of("Changes the habits of an ear.");
        Index x = some();
        x.habits(0, 6);
        Check.due("habits", x.ofEar(0, 0), 6);
        Check.due("habits of the other ear", x.ofEar(1, 0), 1);
        Check.due("code of tas", Check.codes(x, 0, 0), "29");
        Check.due("code of tas by the other ear", Check.codes(x, 1, 0), "3 7 2, 9 7 2");
        Sentence.of("This is a change.");
        Sentence.isChange(ChangesSentences::some, "habits(0, 7)", y -> y.habits(0, 7), 0);
        Sentence.isChange(ChangesSentences::some, "habits(1, 1)", y -> y.habits(1, 1), 1);
        Sentence.of("habits: 0 to 7");
        for (int habits = 0; habits <= 7; habits++) {
            Check.due("habits(0, " + habits + ")", x.habits(0, habits), habits == 0 ? 6 : habits - 1);
            Check.due("ofEar(0, 0)", x.ofEar(0, 0), habits);
        }
        Sentence.of("Returns the previous ones;");
        Check.due("habits(0, 0)", x.habits(0, 0), 7);
        Check.due("habits(0, 0)", x.habits(0, 0), 0);
        Check.due("habits(0, 4)", x.habits(0, 4), 0);
        Check.due("habits(1, 2)", x.habits(1, 2), 1);
        Sentence.of("NO_SUCH if there is no such ear;");
        Check.dueForAll("ear", NO_EARS_OF_TWO, n -> x.habits(n, 3), Check.NO_SUCH);
        Check.dueForAll("ear without ears", new int[] {0, 1, -1}, n -> new Index().habits(n, 3), Check.NO_SUCH);
        Sentence.of("BAD_VALUE if habits is out of range.");
        Check.dueForAll("habits", Check.outside(0, 7), n -> x.habits(0, n), Check.BAD_VALUE);
        Check.due("habits(0, NONE)", x.habits(0, Check.NONE), Check.BAD_VALUE);
        Check.due("ofEar(0, 0)", x.ofEar(0, 0), 4);
    }

    private static void merge() {
        Sentence.under("Promise 9: merge");
        Sentence.of("Merges a class of an ear into another one.");
        Index x = some();
        x.merge(0, 3, 2);
        Check.due("letters like t", x.of(0, T, 2), Check.letters("dtcgjkqsxz"));
        Check.due("class of s", x.of(0, S, 0), 3);
        Check.due("class of s of the other ear", x.of(1, S, 0), 2);
        Check.due("mergers", x.ofEar(0, 1), 1);
        Check.due("mergers of the other ear", x.ofEar(1, 1), 1);
        Check.due("code of tas", Check.codes(x, 0, 0), "3 3");
        Sentence.of("This is a change.");
        Sentence.isChange(ChangesSentences::some, "merge(0, 3, 2)", y -> y.merge(0, 3, 2), 10);
        Sentence.isChange(ChangesSentences::some, "merge(1, 3, 9)", y -> y.merge(1, 3, 9), 2);
        Sentence.isChange(ChangesSentences::some, "merge(0, 8, 7) without letters", y -> y.merge(0, 8, 7), 0);
        Supplier<Index> six = () -> {
            Index y = some();
            for (int i = 0; i < 5; i++) y.merge(1, 0, i + 1);
            return y;
        };
        Sentence.isChange(six, "merge(1, 9, 6), the seventh", y -> y.merge(1, 9, 6), 1);
        Index undone = six.get();
        undone.merge(1, 9, 6);
        undone.undo();
        int[] splits = {5, 4, 3, 2, 1, 5};
        for (int from : splits) Check.due("split behind undo() of the seventh", undone.split(1), from);
        Check.due("split behind undo() of the seventh", undone.split(1), Check.NOT_POSSIBLE);
        Sentence.of("into: 0 to 9, likewise from");
        for (int into = 0; into <= 9; into++) {
            for (int from = 0; from <= 9; from++) {
                Index y = new Index();
                y.ear(Check.NONE);
                y.hear(0, Z, from);
                int answer = y.merge(0, into, from);
                Check.due("merge(0, " + into + ", " + from + ")", answer < 0 ? answer : 0, into == from ? Check.BAD_VALUE : 0);
                Check.due("class of z", y.of(0, Z, 0), into);
            }
        }
    }

    private static void mergeErrors() {
        Sentence.of("Returns how many letters, by their class, are in it then;");
        Index x = some();
        x.second(0, L, 1);
        Check.due("merge(0, 1, 6)", x.merge(0, 1, 6), 5);
        Check.due("merge(0, 1, 7) without letters", x.merge(0, 1, 7), 5);
        Check.due("merge(0, 7, 1) of all of it", x.merge(0, 7, 1), 5);
        Check.due("merge(0, 9, 8) of none into none", x.merge(0, 9, 8), 0);
        Check.due("merge(0, 0, 2)", x.merge(0, 0, 2), 16);
        Check.due("merge(0, 3, 0)", x.merge(0, 3, 0), 18);
        for (int from : new int[] {4, 5, 7}) x.merge(0, 3, from);
        Check.due("merge(0, 2, 3) of all letters", x.merge(0, 2, 3), 26);
        Sentence.of("NO_SUCH if there is no such ear;");
        Check.dueForAll("ear", NO_EARS_OF_TWO, n -> x.merge(n, 1, 2), Check.NO_SUCH);
        Check.dueForAll("ear without ears", new int[] {0, 1, -1}, n -> new Index().merge(n, 1, 2), Check.NO_SUCH);
        Sentence.of("BAD_VALUE if into or from is out of range, or both are the same.");
        int before = x.ofEar(0, 1);
        Check.dueForAll("into", Check.outside(0, 9), n -> x.merge(0, n, 2), Check.BAD_VALUE);
        Check.dueForAll("from", Check.outside(0, 9), n -> x.merge(0, 1, n), Check.BAD_VALUE);
        Check.dueForAll("both", Check.outside(0, 9), n -> x.merge(0, n, n), Check.BAD_VALUE);
        Check.dueForAll("both", new int[] {0, 1, 2, 3, 4, 5, 6, 7, 8, 9}, n -> x.merge(0, n, n), Check.BAD_VALUE);
        Check.due("into NONE", x.merge(0, Check.NONE, 2), Check.BAD_VALUE);
        Check.due("from NONE", x.merge(0, 2, Check.NONE), Check.BAD_VALUE);
        Check.due("mergers", x.ofEar(0, 1), before);
        Check.due("class of z", x.of(0, Z, 0), 2);
    }

    private static void split() {
        Sentence.under("Promise 10: split");
        Sentence.of("Splits: takes the latest merger of an ear back (second classes that were gone stay gone).");
        Index x = some();
        x.second(0, L, 6);
        x.second(0, R, 4);
        x.merge(0, 1, 2);
        x.merge(0, 4, 6);
        x.split(0);
        Check.due("class of r", x.of(0, R, 0), 6);
        Check.due("second class of r", x.of(0, R, 1), Check.NONE);
        Check.due("class of l", x.of(0, L, 0), 4);
        Check.due("second class of l", x.of(0, L, 1), Check.NONE);
        Check.due("class of c", x.of(0, C, 0), 1);
        Check.due("mergers", x.ofEar(0, 1), 1);
        Check.due("mergers of the other ear", x.ofEar(1, 1), 1);
        Check.due("class of m of the other ear", x.of(1, M, 0), 4);
        Sentence.of("This is a change.");
        Sentence.isChange(ChangesSentences::some, "split(1)", y -> y.split(1), 5);
        Index undone = some();
        undone.split(1);
        undone.undo();
        Check.due("split behind undo() of it", undone.split(1), 5);
        Check.due("class of m", undone.of(1, M, 0), 5);
        Sentence.of("Returns the class that is split off;");
        Check.due("split(0)", x.split(0), 2);
        for (int from = 0; from <= 9; from++) {
            Index y = new Index();
            y.ear(Check.NONE);
            y.merge(0, (from + 3) % 10, from);
            Check.due("split(0)", y.split(0), from);
        }
        Sentence.of("NO_SUCH if there is no such ear;");
        Check.dueForAll("ear", NO_EARS_OF_TWO, x::split, Check.NO_SUCH);
        Check.due("split(0) without ears", new Index().split(0), Check.NO_SUCH);
        Sentence.of("NOT_POSSIBLE if it remembers no merger.");
        Check.due("split(0)", x.split(0), Check.NOT_POSSIBLE);
        Check.due("split(1)", x.split(1), 5);
        Check.due("split(1)", x.split(1), Check.NOT_POSSIBLE);
        Check.due("mergers", x.ofEar(1, 1), 0);
        x.merge(1, 3, 4);
        Check.due("split(1)", x.split(1), 4);
    }
}
