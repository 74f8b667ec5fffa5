/** Promises 1 to 10: a new object, and the changes. */
final class ChangesTest {
    private static final int LENGTH = ConsonantIndex.LENGTH, NAMES = ConsonantIndex.NAMES;
    private static final String[] FIRST_CLASSES = {"aehiouwy", "bfpv", "cgjkqsxz", "dt", "l", "mn", "r"};

    private ChangesTest() { }

    static void run() {
        newObject();
        set();
        add();
        drop();
        ear();
        hear();
        second();
        habits();
        merge();
        mergeOfSeconds();
        split();
        splitOfSeconds();
        mergersForgotten();
    }

    private static void newObject() {
        Check.part("promise 1, a new object");
        Index x = new Index();
        int[] counts = {0, 0, 4, 24, 0, 0, 0};
        for (int what = 0; what < counts.length; what++) Check.due("count(" + what + ")", x.count(what), counts[what]);
        Check.due("fault()", x.fault(), 0);
        Check.due("name(0, 0)", x.name(0, 0), Check.NO_SUCH);
        Check.due("ofEar(0, 0)", x.ofEar(0, 0), Check.NO_SUCH);
        Check.due("deafest()", x.deafest(), Check.NONE);
        Check.due("undo()", x.undo(), Check.NOT_POSSIBLE);
        Check.due("restore(0)", x.restore(0), Check.NOT_POSSIBLE);
        Check.due("restore(1)", x.restore(1), Check.NOT_POSSIBLE);
        Index other = new Index();
        Check.addName(x, "other");
        x.ear(Check.NONE);
        Check.due("count(0) of another object", other.count(0), 0);
        Check.due("count(1) of another object", other.count(1), 0);
    }

    private static void set() {
        Check.part("promise 2, set");
        Index x = Check.withNames("tarzan", "bord", "lima");
        x.ear(Check.NONE);
        Check.due("set(LENGTH, 1)", x.set(LENGTH, 1), 4);
        Check.due("count(2)", x.count(2), 1);
        Check.due("code", Check.codeOf(x, 0, 0, 0), "code 3");
        Check.due("set(LENGTH, 5)", x.set(LENGTH, 5), 1);
        Check.due("code", Check.codeOf(x, 0, 0, 0), "code 3 6 2 5");
        Check.due("set(NAMES, 1)", x.set(NAMES, 1), 24);
        Check.due("names stay", x.count(0), 3);
        Check.due("add()", Check.addName(x, "pi"), Check.TOO_MANY);
        Check.due("set(NAMES, 24)", x.set(NAMES, 24), 1);
        Check.due("set(NAMES, 24) again", x.set(NAMES, 24), 24);
        Check.due("count(3)", x.count(3), 24);
        for (int value : new int[] {0, -1, 6, Integer.MIN_VALUE, Integer.MAX_VALUE}) {
            Check.refused(x, "set(LENGTH, " + value + ")", () -> x.set(LENGTH, value), Check.BAD_VALUE);
        }
        for (int value : new int[] {0, -1, 25, Integer.MIN_VALUE, Integer.MAX_VALUE}) {
            Check.refused(x, "set(NAMES, " + value + ")", () -> x.set(NAMES, value), Check.BAD_VALUE);
        }
        for (int setting : new int[] {-1, 2, Integer.MIN_VALUE, Integer.MAX_VALUE}) {
            Check.refused(x, "set(" + setting + ", 3)", () -> x.set(setting, 3), Check.BAD_VALUE);
        }
    }

    private static void add() {
        Check.part("promise 3, add");
        Index x = new Index();
        Check.due("add() of a", Check.addName(x, "a"), 0);
        Check.due("the pad is emptied", x.count(4), 0);
        Check.due("add() of z", Check.addName(x, "z"), 1);
        Check.due("add() of ten letters", Check.addName(x, "abcdefghij"), 2);
        Check.due("its letters", Check.nameAt(x, 2), "abcdefghij");
        Check.due("add() of the same but for the end", Check.addName(x, "abcdefghi"), 3);
        for (String text : new String[] {"", "A", "abC", "abcdefghijk", "a-b", "ab1"}) {
            x.wipe();
            Check.type(x, text);
            Check.refused(x, "add() of " + text, x::add, Check.BAD_TEXT);
        }
        x.wipe();
        Check.type(x, "abcdefghij");
        Check.refused(x, "add() of a name that there is", x::add, Check.NOT_POSSIBLE);
        x.set(NAMES, 4);
        Check.refused(x, "add() of a name that there is, at the most names", x::add, Check.NOT_POSSIBLE);
        x.wipe();
        Check.refused(x, "add() of nothing, at the most names", x::add, Check.BAD_TEXT);
        Check.type(x, "new");
        Check.refused(x, "add() at the most names", x::add, Check.TOO_MANY);
        x.set(NAMES, 3);
        Check.refused(x, "add() beyond the most names", x::add, Check.TOO_MANY);
        x.set(NAMES, 5);
        Check.due("add() below the most names", x.add(), 4);
        Index full = new Index();
        for (int i = 0; i < 24; i++) Check.due("add()", Check.addName(full, "n" + (char) ('a' + i)), i);
        Check.due("add() of the 25th", Check.addName(full, "nz"), Check.TOO_MANY);
        Check.due("the pad stays", full.count(4), 2);
        Check.due("the last one", Check.nameAt(full, 23), "nx");
        Check.due("drop(0) of 24", full.drop(0), 23);
        Check.due("the last one", Check.nameAt(full, 22), "nx");
        Check.due("name(23, 0)", full.name(23, 0), Check.NO_SUCH);
    }

    private static void drop() {
        Check.part("promise 4, drop");
        Index x = Check.withNames("ada", "ben", "cleo", "dirk");
        x.ear(Check.NONE);
        for (int name : new int[] {-1, 4, Check.NONE, Integer.MIN_VALUE, Integer.MAX_VALUE}) {
            Check.refused(x, "drop(" + name + ")", () -> x.drop(name), Check.NO_SUCH);
        }
        Check.due("drop(1)", x.drop(1), 3);
        Check.due("name 0", Check.nameAt(x, 0), "ada");
        Check.due("name 1", Check.nameAt(x, 1), "cleo");
        Check.due("name 2", Check.nameAt(x, 2), "dirk");
        Check.due("name(3, 0)", x.name(3, 0), Check.NO_SUCH);
        Check.due("drop(2)", x.drop(2), 2);
        Check.due("drop(0)", x.drop(0), 1);
        Check.due("name 0", Check.nameAt(x, 0), "cleo");
        Check.due("drop(0)", x.drop(0), 0);
        Check.due("drop(0) without names", x.drop(0), Check.NO_SUCH);
        Check.due("add() of a dropped one", Check.addName(x, "ben"), 0);
    }

    private static void ear() {
        Check.part("promise 5, ear");
        Index x = Check.withNames("shasta");
        for (int as : new int[] {-1, 0, 1, -5, -7, Integer.MIN_VALUE, Integer.MAX_VALUE}) {
            Check.refused(x, "ear(" + as + ")", () -> x.ear(as), Check.NO_SUCH);
        }
        Check.due("ear(NONE)", x.ear(Check.NONE), 0);
        for (int kind = 0; kind < FIRST_CLASSES.length; kind++) {
            for (char sign : FIRST_CLASSES[kind].toCharArray()) {
                Check.due("of(0, " + sign + ", 0)", x.of(0, Check.letter(sign), 0), kind);
                Check.due("of(0, " + sign + ", 1)", x.of(0, Check.letter(sign), 1), Check.NONE);
            }
        }
        Check.due("habits at first", x.ofEar(0, 0), 0);
        Check.due("mergers at first", x.ofEar(0, 1), 0);
        x.hear(0, 0, 7);
        x.second(0, 18, 8);
        x.habits(0, 5);
        x.merge(0, 9, 8);
        Check.due("ear(0)", x.ear(0), 1);
        Check.due("class", x.of(1, 0, 0), 7);
        Check.due("second class", x.of(1, 18, 1), 9);
        Check.due("habits", x.ofEar(1, 0), 5);
        Check.due("mergers", x.ofEar(1, 1), 1);
        Check.due("split(1)", x.split(1), 8);
        Check.due("second class then", x.of(1, 18, 1), 8);
        Check.due("the model keeps its own", x.of(0, 18, 1), 9);
        Check.due("ear(NONE)", x.ear(Check.NONE), 2);
        Check.due("class at first", x.of(2, 0, 0), 0);
        Check.due("second class at first", x.of(2, 18, 1), Check.NONE);
        Check.due("ear(2)", x.ear(2), 3);
        Check.refused(x, "ear(NONE), the fifth", () -> x.ear(Check.NONE), Check.TOO_MANY);
        Check.refused(x, "ear(3), the fifth", () -> x.ear(3), Check.TOO_MANY);
        Check.refused(x, "ear(4), the fifth", () -> x.ear(4), Check.NO_SUCH);
        x.undo();
        x.undo();
        x.save(0);
        x.ear(Check.NONE);
        x.habits(2, 7);
        x.merge(2, 1, 3);
        x.second(2, 3, 5);
        x.restore(0);
        x.hear(1, 3, 9);
        Check.due("ear(NONE) where one was taken back", x.ear(Check.NONE), 2);
        Check.due("it has its classes at first", x.of(2, 3, 0), 3);
        Check.due("it has its second classes at first", x.of(2, 3, 1), Check.NONE);
        Check.due("it has its habits at first", x.ofEar(2, 0), 0);
        Check.due("it has its mergers at first", x.ofEar(2, 1), 0);
        Check.due("ear(1)", x.ear(1), 3);
        Check.due("it is as the model is now", x.of(3, 3, 0), 9);
        earWithMergers();
    }

    private static void earWithMergers() {
        Index x = new Index();
        x.ear(Check.NONE);
        x.second(0, Check.letter('a'), 6);
        x.merge(0, 3, 6);
        x.merge(0, 1, 4);
        x.ear(0);
        Check.due("split(1), the latest", x.split(1), 4);
        Check.due("of(1, l, 0)", x.of(1, Check.letter('l'), 0), 4);
        Check.due("of(1, b, 0)", x.of(1, Check.letter('b'), 0), 1);
        Check.due("split(1), the one before", x.split(1), 6);
        Check.due("of(1, r, 0)", x.of(1, Check.letter('r'), 0), 6);
        Check.due("of(1, a, 1)", x.of(1, Check.letter('a'), 1), 6);
        Check.due("split(1) without mergers", x.split(1), Check.NOT_POSSIBLE);
        Check.due("the model keeps its mergers", x.ofEar(0, 1), 2);
        Check.due("the model keeps its classes", x.of(0, Check.letter('r'), 0), 3);
    }

    private static void hear() {
        Check.part("promise 6, hear");
        Index x = Check.withNames("tat");
        x.ear(Check.NONE);
        Check.due("hear(0, t, 9)", x.hear(0, 19, 9), 3);
        Check.due("hear(0, t, 0)", x.hear(0, 19, 0), 9);
        Check.due("code", Check.codeOf(x, 0, 0, 0), "code");
        Check.due("hear(0, a, 1)", x.hear(0, 0, 1), 0);
        Check.due("hear(0, z, 9)", x.hear(0, 25, 9), 2);
        Check.due("code", Check.codeOf(x, 0, 0, 0), "code 1");
        x.second(0, 0, 4);
        Check.due("hear(0, a, 5)", x.hear(0, 0, 5), 1);
        Check.due("the second class stays", x.of(0, 0, 1), 4);
        Check.due("hear(0, a, 4)", x.hear(0, 0, 4), 5);
        Check.due("the second class is gone", x.of(0, 0, 1), Check.NONE);
        Check.due("hear(0, a, 5)", x.hear(0, 0, 5), 4);
        Check.due("it stays gone", x.of(0, 0, 1), Check.NONE);
        for (int far : Check.FAR) {
            Check.refused(x, "hear(" + far + ", 0, 0)", () -> x.hear(far, 0, 0), Check.NO_SUCH);
            Check.refused(x, "hear(0, " + far + ", 0)", () -> x.hear(0, far, 0), Check.NO_SUCH);
            Check.refused(x, "hear(0, 0, " + far + ")", () -> x.hear(0, 0, far), Check.BAD_VALUE);
        }
        Check.refused(x, "hear(1, 0, 0)", () -> x.hear(1, 0, 0), Check.NO_SUCH);
        Check.refused(x, "hear(0, 26, 0)", () -> x.hear(0, 26, 0), Check.NO_SUCH);
        Check.refused(x, "hear(0, -1, 10)", () -> x.hear(0, -1, 10), Check.NO_SUCH);
        Check.refused(x, "hear(0, 0, 10)", () -> x.hear(0, 0, 10), Check.BAD_VALUE);
        Check.refused(x, "hear(0, 0, -1)", () -> x.hear(0, 0, -1), Check.BAD_VALUE);
        Check.refused(x, "hear(0, 0, NONE)", () -> x.hear(0, 0, Check.NONE), Check.BAD_VALUE);
    }

    private static void second() {
        Check.part("promise 7, second");
        Index x = Check.withNames("tat");
        x.ear(Check.NONE);
        Check.due("second(0, t, 9)", x.second(0, 19, 9), Check.NONE);
        Check.due("second(0, t, 0)", x.second(0, 19, 0), 9);
        Check.due("of(0, t, 1)", x.of(0, 19, 1), 0);
        Check.due("second(0, t, 0) again", x.second(0, 19, 0), 0);
        Check.due("second(0, t, NONE)", x.second(0, 19, Check.NONE), 0);
        Check.due("of(0, t, 1)", x.of(0, 19, 1), Check.NONE);
        Check.due("second(0, t, NONE) again", x.second(0, 19, Check.NONE), Check.NONE);
        Check.due("second(0, z, 1)", x.second(0, 25, 1), Check.NONE);
        Check.refused(x, "second(0, z, 2)", () -> x.second(0, 25, 2), Check.NOT_POSSIBLE);
        Check.refused(x, "second(0, a, 0)", () -> x.second(0, 0, 0), Check.NOT_POSSIBLE);
        for (int far : Check.FAR) {
            Check.refused(x, "second(" + far + ", 0, 1)", () -> x.second(far, 0, 1), Check.NO_SUCH);
            Check.refused(x, "second(0, " + far + ", 1)", () -> x.second(0, far, 1), Check.NO_SUCH);
            Check.refused(x, "second(0, 0, " + far + ")", () -> x.second(0, 0, far), Check.BAD_VALUE);
        }
        for (int kind : new int[] {10, -1, -2, -5}) {
            Check.refused(x, "second(0, 0, " + kind + ")", () -> x.second(0, 0, kind), Check.BAD_VALUE);
            Check.refused(x, "second(0, 26, " + kind + ")", () -> x.second(0, 26, kind), Check.NO_SUCH);
            Check.refused(x, "second(1, 0, " + kind + ")", () -> x.second(1, 0, kind), Check.NO_SUCH);
        }
    }

    private static void habits() {
        Check.part("promise 8, habits");
        Index x = Check.withNames("chphshth", "hahbh", "s", "ss", "tas", "asb", "has");
        x.ear(Check.NONE);
        x.set(LENGTH, 5);
        x.hear(0, Check.letter('h'), 7);
        Check.due("chphshth", Check.codeOf(x, 0, 0, 0), "code 2 7 1 7 2");
        Check.due("habits(0, 1)", x.habits(0, 1), 0);
        Check.due("chphshth", Check.codeOf(x, 0, 0, 0), "code 2 1 2 3");
        Check.due("hahbh", Check.codeOf(x, 0, 1, 0), "code 7 7 1 7");
        Check.due("s", Check.codeOf(x, 0, 2, 0), "code 2");
        Check.due("habits(0, 2)", x.habits(0, 2), 1);
        Check.due("chphshth", Check.codeOf(x, 0, 0, 0), "code 2 7 1 7 2");
        Check.due("s", Check.codeOf(x, 0, 2, 0), "code 2");
        Check.due("ss", Check.codeOf(x, 0, 3, 0), "code 2");
        Check.due("tas", Check.codeOf(x, 0, 4, 0), "code 3");
        Check.due("asb", Check.codeOf(x, 0, 5, 0), "code 2 1");
        Check.due("habits(0, 4)", x.habits(0, 4), 2);
        Check.due("chphshth", Check.codeOf(x, 0, 0, 0), "code 12 7 1 7 2");
        Check.due("s", Check.codeOf(x, 0, 2, 0), "code 28");
        Check.due("ss", Check.codeOf(x, 0, 3, 0), "code 28 2");
        Check.due("tas", Check.codeOf(x, 0, 4, 0), "code 29 2");
        Check.due("asb", Check.codeOf(x, 0, 5, 0), "code 10 2 1");
        Check.due("habits(0, 7)", x.habits(0, 7), 4);
        Check.due("chphshth", Check.codeOf(x, 0, 0, 0), "code 12 1 2 3");
        Check.due("s", Check.codeOf(x, 0, 2, 0), "code 28");
        Check.due("ss", Check.codeOf(x, 0, 3, 0), "code 28");
        Check.due("has", Check.codeOf(x, 0, 6, 0), "code 17");
        Check.due("habits(0, 0)", x.habits(0, 0), 7);
        habitsAndSeconds(x);
        for (int far : Check.FAR) {
            Check.refused(x, "habits(" + far + ", 0)", () -> x.habits(far, 0), Check.NO_SUCH);
            Check.refused(x, "habits(0, " + far + ")", () -> x.habits(0, far), Check.BAD_VALUE);
        }
        Check.refused(x, "habits(1, 8)", () -> x.habits(1, 8), Check.NO_SUCH);
        Check.refused(x, "habits(0, 8)", () -> x.habits(0, 8), Check.BAD_VALUE);
        Check.refused(x, "habits(0, -1)", () -> x.habits(0, -1), Check.BAD_VALUE);
    }

    /** A letter that is heard by a habit is not open. */
    private static void habitsAndSeconds(Index x) {
        x.second(0, Check.letter('s'), 8);
        x.second(0, Check.letter('h'), 9);
        Check.due("s", Check.codeOf(x, 0, 2, 1), "code 8");
        Check.due("ss, way 3", Check.codeOf(x, 0, 3, 3), "code 8");
        x.habits(0, 4);
        Check.due("s", Check.codeOf(x, 0, 2, 1), "error -1");
        Check.due("ss", Check.codeOf(x, 0, 3, 1), "code 28 8");
        Check.due("ss", Check.codeOf(x, 0, 3, 2), "error -1");
        x.habits(0, 2);
        Check.due("ss", Check.codeOf(x, 0, 3, 1), "code 8");
        Check.due("ss", Check.codeOf(x, 0, 3, 2), "error -1");
        x.habits(0, 1);
        Check.due("chphshth, the s alone is open", Check.codeOf(x, 0, 0, 1), "code 2 1 8 3");
        Check.due("chphshth", Check.codeOf(x, 0, 0, 2), "error -1");
        Check.due("hahbh, its first two h are open", Check.codeOf(x, 0, 1, 3), "code 9 9 1 7");
    }

    private static void merge() {
        Check.part("promise 9, merge");
        Index x = Check.withNames("dirk");
        x.ear(Check.NONE);
        Check.due("merge(0, 3, 6)", x.merge(0, 3, 6), 3);
        Check.due("letters of 3", x.of(0, 3, 2), Check.letters("dtr"));
        Check.due("merge(0, 9, 3)", x.merge(0, 9, 3), 3);
        Check.due("letters of 9", x.of(0, 3, 2), Check.letters("dtr"));
        Check.due("of(0, r, 0)", x.of(0, 17, 0), 9);
        Check.due("merge(0, 8, 7) without letters", x.merge(0, 8, 7), 0);
        Check.due("it is remembered", x.ofEar(0, 1), 3);
        Check.due("merge(0, 0, 1)", x.merge(0, 0, 1), 12);
        Check.due("merge(0, 4, 0)", x.merge(0, 4, 0), 13);
        Check.due("silent letters", x.ofEar(0, 7), 0);
        x.ear(Check.NONE);
        Check.due("another ear keeps its classes", x.of(1, 17, 0), 6);
        for (int far : Check.FAR) {
            Check.refused(x, "merge(" + far + ", 1, 2)", () -> x.merge(far, 1, 2), Check.NO_SUCH);
            Check.refused(x, "merge(0, " + far + ", 2)", () -> x.merge(0, far, 2), Check.BAD_VALUE);
            Check.refused(x, "merge(0, 1, " + far + ")", () -> x.merge(0, 1, far), Check.BAD_VALUE);
        }
        int[][] wrong = {{10, 1}, {1, 10}, {-1, 1}, {1, -1}, {3, 3}, {0, 0}};
        for (int[] classes : wrong) {
            String classesTold = classes[0] + ", " + classes[1] + ")";
            Check.refused(x, "merge(0, " + classesTold, () -> x.merge(0, classes[0], classes[1]), Check.BAD_VALUE);
            Check.refused(x, "merge(2, " + classesTold, () -> x.merge(2, classes[0], classes[1]), Check.NO_SUCH);
        }
    }

    private static void mergeOfSeconds() {
        Check.part("promise 9, merge and second classes");
        Index x = new Index();
        x.ear(Check.NONE);
        x.second(0, 0, 5); // a: 0, 5
        x.second(0, 11, 5); // l: 4, 5
        x.second(0, 12, 4); // m: 5, 4
        x.second(0, 1, 9); // b: 1, 9
        Check.due("merge(0, 4, 5)", x.merge(0, 4, 5), 3);
        Check.due("a gets the other second class", x.of(0, 0, 1), 4);
        Check.due("l loses its second class", x.of(0, 11, 1), Check.NONE);
        Check.due("m loses its second class", x.of(0, 12, 1), Check.NONE);
        Check.due("b keeps its second class", x.of(0, 1, 1), 9);
        Check.due("letters with a second class", x.ofEar(0, 6), Check.letters("ab"));
        Check.due("split(0)", x.split(0), 5);
        Check.due("a gets its second class again", x.of(0, 0, 1), 5);
        Check.due("l has none", x.of(0, 11, 1), Check.NONE);
        Check.due("m has none", x.of(0, 12, 1), Check.NONE);
        Check.due("m gets its class again", x.of(0, 12, 0), 5);
        Check.due("l keeps its class", x.of(0, 11, 0), 4);
    }

    private static void split() {
        Check.part("promise 10, split");
        Index x = new Index();
        x.ear(Check.NONE);
        x.merge(0, 3, 6);
        x.merge(0, 1, 3);
        Check.due("of(0, r, 0)", x.of(0, 17, 0), 1);
        Check.due("split(0)", x.split(0), 3);
        Check.due("of(0, r, 0)", x.of(0, 17, 0), 3);
        Check.due("of(0, b, 0)", x.of(0, 1, 0), 1);
        Check.due("mergers", x.ofEar(0, 1), 1);
        x.hear(0, 17, 9);
        Check.due("split(0)", x.split(0), 6);
        Check.due("a letter with another class now keeps it", x.of(0, 17, 0), 9);
        Check.due("a letter that had the class before keeps it", x.of(0, 3, 0), 3);
        Check.refused(x, "split(0) without mergers", () -> x.split(0), Check.NOT_POSSIBLE);
        x.merge(0, 4, 9);
        x.hear(0, 1, 4);
        Check.due("split(0)", x.split(0), 9);
        Check.due("a letter that came to the class later keeps it", x.of(0, 1, 0), 4);
        Check.due("of(0, r, 0)", x.of(0, 17, 0), 9);
        for (int far : Check.FAR) Check.refused(x, "split(" + far + ")", () -> x.split(far), Check.NO_SUCH);
        Check.refused(x, "split(1)", () -> x.split(1), Check.NO_SUCH);
        Check.refused(x, "split(-1)", () -> x.split(-1), Check.NO_SUCH);
    }

    private static void splitOfSeconds() {
        Check.part("promise 10, split and second classes");
        Index x = new Index();
        x.ear(Check.NONE);
        x.merge(0, 3, 6);
        x.second(0, 17, 6); // r: 3, 6
        x.second(0, 18, 6); // s: 2, 6
        Check.due("split(0)", x.split(0), 6);
        Check.due("a second class that would be the class is gone", x.of(0, 17, 1), Check.NONE);
        Check.due("a second class that did not come by the merger stays", x.of(0, 18, 1), 6);
        x.second(0, 19, 7); // t: 3, 7
        x.second(0, 11, 8); // l: 4, 8
        x.merge(0, 8, 7);
        Check.due("of(0, t, 1)", x.of(0, 19, 1), 8);
        x.hear(0, 19, 7);
        Check.due("split(0)", x.split(0), 7);
        Check.due("the second class of t would be its class", x.of(0, 19, 1), Check.NONE);
        Check.due("the second class of l was there before", x.of(0, 11, 1), 8);
        x.hear(0, 1, 5);
        x.second(0, 1, 9);
        x.merge(0, 2, 9);
        x.second(0, 1, 1);
        Check.due("split(0)", x.split(0), 9);
        Check.due("a second class that is another one now stays", x.of(0, 1, 1), 1);
        Index y = new Index();
        y.ear(Check.NONE);
        Check.refused(y, "split(0) without mergers", () -> y.split(0), Check.NOT_POSSIBLE);
        for (int letter = 0; letter < 26; letter++) y.second(0, letter, 9);
        y.merge(0, 9, 8);
        y.split(0);
        for (int letter = 0; letter < 26; letter++) {
            Check.due("second class of letter " + letter + " that was there before", y.of(0, letter, 1), 9);
        }
    }

    private static void mergersForgotten() {
        Check.part("promise 9, mergers forgotten");
        Index x = new Index();
        x.ear(Check.NONE);
        for (int from = 1; from <= 6; from++) x.merge(0, 0, from);
        Check.due("mergers", x.ofEar(0, 1), 6);
        x.merge(0, 9, 0);
        Check.due("mergers", x.ofEar(0, 1), 6);
        int[] splits = {0, 6, 5, 4, 3, 2};
        for (int i = 0; i < splits.length; i++) {
            Check.due("split " + i, x.split(0), splits[i]);
            Check.due("mergers", x.ofEar(0, 1), 5 - i);
        }
        Check.due("split(0) of a forgotten one", x.split(0), Check.NOT_POSSIBLE);
        Check.due("its letters stay", x.ofEar(0, 7), Check.letters("aehiouwybfpv"));
        Check.due("those of the others do not", x.of(0, 18, 0), 2);
        Index y = new Index();
        y.ear(Check.NONE);
        y.second(0, 0, 4);
        // The classes of r and l, and the second class of a, go from class to class.
        int[][] mergers = {{6, 1}, {7, 6}, {8, 4}, {9, 8}, {3, 2}, {4, 3}, {5, 9}};
        for (int[] merger : mergers) y.merge(0, merger[0], merger[1]);
        int[] ofR = {7, 7, 7, 7, 7, 6};
        int[] ofL = {9, 9, 9, 8, 4, 4};
        int[] ofS = {4, 3, 2, 2, 2, 2};
        for (int i = 0; i < 6; i++) {
            Check.due("split " + i, y.split(0), mergers[6 - i][1]);
            Check.due("class of r behind split " + i, y.of(0, 17, 0), ofR[i]);
            Check.due("class of l behind split " + i, y.of(0, 11, 0), ofL[i]);
            Check.due("class of s behind split " + i, y.of(0, 18, 0), ofS[i]);
            Check.due("second class of a behind split " + i, y.of(0, 0, 1), ofL[i]);
        }
        Check.due("split(0) of a forgotten one", y.split(0), Check.NOT_POSSIBLE);
        Check.due("its letters stay", y.of(0, 1, 0), 6);
    }
}
