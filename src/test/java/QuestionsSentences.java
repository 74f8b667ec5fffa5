/** Promises 11 to 19, sentence by sentence. */
final class QuestionsSentences {
    private static final int LENGTH = ConsonantIndex.LENGTH, NAMES = ConsonantIndex.NAMES;
    private static final int B = 1, C = 2, L = 11, R = 17, S = 18, T = 19;
    private static final int[] NO_EARS_OF_ONE = {-1, 1, 2, 3, 4, -6, -2, 256, 1 << 16, Integer.MIN_VALUE, Integer.MAX_VALUE};

    private QuestionsSentences() { }

    static void run() {
        name();
        of();
        ofEar();
        ofEarErrors();
        code();
        codeErrors();
        drawer();
        drawerOrder();
        count();
        alike();
        distance();
        find();
        findNearest();
        findErrors();
    }

    private static Index withEar(String... names) {
        Index x = Check.withNames(names);
        x.ear(Check.NONE);
        return x;
    }

    private static void name() {
        Sentence.under("Promise 11: name");
        Sentence.of("Returns something about a name.");
        Index x = Check.withNames("zab", "q", "abcdefghij");
        Sentence.changesNothing(() -> Check.withNames("zab"), "name(0, 0)", y -> y.name(0, 0), 3);
        Sentence.of("what: 0 how many letters, 1 to 10 the letter at that place, from 1 on (NONE behind its end), 11 its "
            + "letters, as a set");
        int none = Check.NONE;
        int[][] due = {
            {3, 25, 0, 1, none, none, none, none, none, none, none, Check.letters("abz")},
            {1, 16, none, none, none, none, none, none, none, none, none, Check.letters("q")},
            {10, 0, 1, 2, 3, 4, 5, 6, 7, 8, 9, Check.letters("abcdefghij")},
        };
        for (int name = 0; name < 3; name++) {
            for (int what = 0; what < 12; what++) {
                Check.due("name(" + name + ", " + what + ")", x.name(name, what), due[name][what]);
            }
        }
        Check.addName(x, "bobobob");
        Check.due("a set has a letter once", x.name(3, 11), Check.letters("bo"));
        Sentence.of("Returns the number;");
        Check.due("name(3, 0)", x.name(3, 0), 7);
        Sentence.of("NO_SUCH if there is no such name;");
        Check.dueForAll("name", Check.outside(0, 3), n -> x.name(n, 0), Check.NO_SUCH);
        Check.due("name(-6, 1)", x.name(-6, 1), Check.NO_SUCH);
        Check.due("name(0, 0) without names", new Index().name(0, 0), Check.NO_SUCH);
        Check.due("name(4, 10)", x.name(4, 10), Check.NO_SUCH);
        x.drop(0);
        Check.due("name(3, 0) behind drop", x.name(3, 0), Check.NO_SUCH);
        Sentence.of("BAD_VALUE if what is out of range.");
        Check.dueForAll("what", Check.outside(0, 11), n -> x.name(0, n), Check.BAD_VALUE);
        Check.dueForAll("what, of ten letters", Check.outside(0, 11), n -> x.name(1, n), Check.BAD_VALUE);
    }

    private static void of() {
        Sentence.under("Promise 12: of");
        Sentence.of("Returns something about how an ear hears a letter.");
        Sentence.changesNothing(() -> withEar("zab"), "of(0, 1, 0)", y -> y.of(0, 1, 0), 1);
        Index x = withEar("zab");
        x.hear(0, B, 4);
        x.second(0, B, 6);
        x.second(0, R, 4);
        Sentence.of("what: 0 its class, 1 its second class (NONE), 2 letters of the same class, as a set (itself too)");
        Check.due("of(0, b, 0)", x.of(0, B, 0), 4);
        Check.due("of(0, b, 1)", x.of(0, B, 1), 6);
        Check.due("of(0, b, 2)", x.of(0, B, 2), Check.letters("bl"));
        Check.due("of(0, l, 2)", x.of(0, L, 2), Check.letters("bl"));
        Check.due("of(0, l, 1)", x.of(0, L, 1), Check.NONE);
        Check.due("of(0, r, 2)", x.of(0, R, 2), Check.letters("r"));
        Check.due("of(0, a, 2)", x.of(0, 0, 2), Check.letters("aehiouwy"));
        Check.due("of(0, z, 2)", x.of(0, 25, 2), Check.letters("cgjkqsxz"));
        x.second(0, S, 0);
        Check.due("of(0, s, 1)", x.of(0, S, 1), 0);
        Sentence.of("Returns the number;");
        x.hear(0, S, 9);
        Check.due("of(0, s, 0)", x.of(0, S, 0), 9);
        Sentence.of("NO_SUCH if there is no such ear or letter;");
        for (int what = 0; what < 3; what++) {
            int asked = what;
            Check.dueForAll("ear", NO_EARS_OF_ONE, n -> x.of(n, 0, asked), Check.NO_SUCH);
            Check.dueForAll("letter", Check.outside(0, 25), n -> x.of(0, n, asked), Check.NO_SUCH);
        }
        Check.due("of(0, 0, 0) without ears", new Index().of(0, 0, 0), Check.NO_SUCH);
        Sentence.of("BAD_VALUE if what is out of range.");
        Check.dueForAll("what", Check.outside(0, 2), n -> x.of(0, 0, n), Check.BAD_VALUE);
        Check.due("what NONE", x.of(0, 0, Check.NONE), Check.BAD_VALUE);
    }

    private static void ofEarDue(Index x, int what, int want) {
        Check.due("ofEar(0, " + what + ")", x.ofEar(0, what), want);
    }

    private static void ofEar() {
        Sentence.under("Promise 13: ofEar");
        Sentence.of("Returns something about an ear.");
        for (int what = 0; what < 8; what++) {
            int asked = what;
            int[] due = {0, 0, 2, 2, 0, 1, 0, Check.letters("aehiouwy")};
            Sentence.changesNothing(() -> withEar("zab", "cob", "l"), "ofEar(0, " + what + ")", y -> y.ofEar(0, asked),
                due[what]);
        }
        Sentence.of("what: 0 its habits, 1 mergers that it remembers, 2 drawers, 3 names in its fullest drawer, 4 names that "
            + "are in two drawers or more, as a set, 5 pairs of names that it hears alike, 6 letters with a second class, "
            + "as a set, 7 its silent letters, by their class, as a set");
        Index x = withEar();
        for (int what = 0; what < 7; what++) ofEarDue(x, what, 0);
        Check.addName(x, "ca");
        ofEarDue(x, 2, 1);
        ofEarDue(x, 3, 1);
        ofEarDue(x, 4, 0);
        ofEarDue(x, 5, 0);
        Check.addName(x, "ta");
        Check.addName(x, "ga");
        Check.addName(x, "da");
        Check.addName(x, "sa");
        Check.addName(x, "r");
        // 2, 3, 2, 3, 2, 6
        ofEarDue(x, 2, 3);
        ofEarDue(x, 3, 3);
        ofEarDue(x, 4, 0);
        ofEarDue(x, 5, 4);
        x.second(0, C, 3);
        x.second(0, 3, 0);
        // 2 or 3, 3, 2, 3 or none, 2, 6
        ofEarDue(x, 2, 4);
        ofEarDue(x, 3, 3);
        ofEarDue(x, 4, Check.bits(0, 3));
        ofEarDue(x, 5, 6);
        ofEarDue(x, 6, Check.letters("cd"));
        ofEarDue(x, 7, Check.letters("aehiouwy"));
        x.hear(0, R, 0);
        x.second(0, R, 7);
        x.second(0, 0, 7);
        ofEarDue(x, 7, Check.letters("aehiouwyr"));
        ofEarDue(x, 6, Check.letters("acdr"));
        x.merge(0, 0, 4);
        ofEarDue(x, 1, 1);
        ofEarDue(x, 7, Check.letters("aehiouwyrl"));
        x.habits(0, 5);
        ofEarDue(x, 0, 5);
        Index full = withEar();
        for (int i = 0; i < 24; i++) Check.addName(full, "aeio".charAt(i / 6) + "" + "aeiouy".charAt(i % 6));
        ofEarDue(full, 2, 1);
        ofEarDue(full, 3, 24);
        ofEarDue(full, 5, 24 * 23 / 2);
        full.second(0, 0, 9);
        ofEarDue(full, 4, Check.bits(0, 1, 2, 3, 4, 5, 6, 12, 18));
    }

    private static void ofEarErrors() {
        Sentence.of("Returns the number;");
        Index x = withEar("zab");
        ofEarDue(x, 2, 1);
        Sentence.of("NO_SUCH if there is no such ear;");
        for (int what = 0; what < 8; what++) {
            int asked = what;
            Check.dueForAll("ear", NO_EARS_OF_ONE, n -> x.ofEar(n, asked), Check.NO_SUCH);
            Check.due("ofEar(0, " + what + ") without ears", new Index().ofEar(0, what), Check.NO_SUCH);
        }
        x.undo();
        Check.due("ofEar(0, 0) behind undo", x.ofEar(0, 0), Check.NO_SUCH);
        x.ear(Check.NONE);
        Sentence.of("BAD_VALUE if what is out of range.");
        Check.dueForAll("what", Check.outside(0, 7), n -> x.ofEar(0, n), Check.BAD_VALUE);
        Check.due("what NONE", x.ofEar(0, Check.NONE), Check.BAD_VALUE);
    }

    private static void code() {
        Sentence.under("Promise 14: code");
        Sentence.of("Returns something about a code of a name.");
        Index x = withEar("tl", "lt", "rm", "a");
        x.second(0, T, 8);
        x.second(0, L, 9);
        Sentence.changesNothing(() -> withEar("zab"), "code(0, 0, 0, 0)", y -> y.code(0, 0, 0, 0), 2);
        Sentence.of("which: 0 for its first code, and so on");
        String[] ofTl = {"code 3 4", "code 8 4", "code 3 9", "code 8 9", "error -1", "error -1"};
        String[] ofLt = {"code 4 3", "code 9 3", "code 4 8", "code 9 8", "error -1", "error -1"};
        String[] ofRm = {"code 6 5", "error -1", "error -1", "error -1", "error -1", "error -1"};
        for (int which = 0; which < 6; which++) {
            Check.due("tl, " + which, Check.codeOf(x, 0, 0, which), ofTl[which]);
            Check.due("lt, " + which, Check.codeOf(x, 0, 1, which), ofLt[which]);
            Check.due("rm, " + which, Check.codeOf(x, 0, 2, which), ofRm[which]);
        }
        Sentence.of("place: 0 to 4 the number at that place; 5 how long the code is; 6 its drawer");
        Check.addName(x, "rmlkb");
        x.set(LENGTH, 5);
        x.second(0, L, Check.NONE);
        int[] due = {6, 5, 4, 2, 1, 5, 6};
        for (int place = 0; place < 7; place++) Check.due("code(0, 4, 0, " + place + ")", x.code(0, 4, 0, place), due[place]);
        int[] ofA = {Check.NONE, Check.NONE, Check.NONE, Check.NONE, Check.NONE, 0, 5};
        for (int place = 0; place < 7; place++) Check.due("code(0, 3, 0, " + place + ")", x.code(0, 3, 0, place), ofA[place]);
        int[] drawers = {x.code(0, 0, 0, 6), x.code(0, 0, 1, 6), x.code(0, 1, 0, 6), x.code(0, 1, 1, 6), x.code(0, 2, 0, 6)};
        for (int i = 0; i < 5; i++) Check.due("drawer", drawers[i], i);
        Check.addName(x, "tal");
        Check.due("a drawer that there was", x.code(0, 5, 0, 6), 0);
        Check.due("a drawer that there was", x.code(0, 5, 1, 6), 1);
        x.habits(0, 4);
        Check.due("a letter told by itself", x.code(0, 4, 0, 0), 27);
        Sentence.of("Returns the number;");
        Check.due("code(0, 4, 0, 1)", x.code(0, 4, 0, 1), 5);
    }

    private static void codeErrors() {
        Index x = withEar("tl", "rm");
        x.second(0, T, 8);
        Sentence.of("NO_SUCH if there is no such ear or name, or it has not so many codes;");
        for (int place = 0; place < 7; place++) {
            int asked = place;
            Check.dueForAll("ear", NO_EARS_OF_ONE, n -> x.code(n, 0, 0, asked), Check.NO_SUCH);
            Check.dueForAll("name", Check.outside(0, 1), n -> x.code(0, n, 0, asked), Check.NO_SUCH);
            Check.dueForAll("which of two", Check.outside(0, 1), n -> x.code(0, 0, n, asked), Check.NO_SUCH);
            Check.dueForAll("which of one", Check.outside(0, 0), n -> x.code(0, 1, n, asked), Check.NO_SUCH);
        }
        Check.due("code(0, 0, 0, 0) without names", withEar().code(0, 0, 0, 0), Check.NO_SUCH);
        Check.due("code(0, 0, 0, 0) without ears", Check.withNames("tl").code(0, 0, 0, 0), Check.NO_SUCH);
        Check.due("code(0, 23, 0, 0)", x.code(0, 23, 0, 0), Check.NO_SUCH);
        x.second(0, L, 9);
        Check.dueForAll("which of four", Check.outside(0, 3), n -> x.code(0, 0, n, 0), Check.NO_SUCH);
        Sentence.of("BAD_VALUE if place is out of range;");
        Check.dueForAll("place", Check.outside(0, 6), n -> x.code(0, 0, 0, n), Check.BAD_VALUE);
        Check.due("place NONE", x.code(0, 0, 0, Check.NONE), Check.BAD_VALUE);
        Sentence.of("NONE if the code is not so long.");
        Index y = withEar("a", "b", "bc", "bcd", "bcdl", "bcdlm");
        y.set(LENGTH, 5);
        for (int size = 0; size <= 5; size++) {
            for (int place = 0; place < 5; place++) {
                int want = place < size ? place + 1 : Check.NONE;
                Check.due("code(0, " + size + ", 0, " + place + ")", y.code(0, size, 0, place), want);
            }
        }
        y.set(LENGTH, 2);
        Check.due("code(0, 5, 0, 1)", y.code(0, 5, 0, 1), 2);
        Check.due("code(0, 5, 0, 2)", y.code(0, 5, 0, 2), Check.NONE);
    }

    private static void drawer() {
        Sentence.under("Promise 15: drawer");
        Sentence.of("Returns the names of a drawer of an ear.");
        Index x = withEar("ta", "ra", "da", "a", "tar");
        Sentence.changesNothing(() -> withEar("ta", "ra", "da"), "drawer(0, 0, 0)", y -> y.drawer(0, 0, 0), 5);
        Check.due("drawers", Check.drawers(x, 0, 0), "0 2, 1, 3, 4");
        x.ear(Check.NONE);
        x.merge(1, 3, 6);
        Check.due("drawers of another ear", Check.drawers(x, 1, 0), "0 1 2, 3, 4");
        Sentence.of("Returns the names, as a set;");
        Check.due("drawer(0, 0, 0)", x.drawer(0, 0, 0), 5);
        Check.due("drawer(0, 0, 1)", x.drawer(0, 0, 1), 8);
        Index full = withEar();
        for (int i = 0; i < 24; i++) Check.addName(full, "aeio".charAt(i / 6) + "" + "aeiouy".charAt(i % 6));
        Check.due("drawer(0, 0, 0) of 24 names", full.drawer(0, 0, 0), (1 << 24) - 1);
        Sentence.of("NO_SUCH if there is no such ear, or not so many drawers;");
        for (int order = 0; order < 2; order++) {
            int asked = order;
            Check.dueForAll("ear", new int[] {-1, 2, 3, 4, -6, Integer.MIN_VALUE, Integer.MAX_VALUE},
                n -> x.drawer(n, 0, asked), Check.NO_SUCH);
            Check.dueForAll("drawer of four", Check.outside(0, 3), n -> x.drawer(0, n, asked), Check.NO_SUCH);
            Check.dueForAll("drawer of three", Check.outside(0, 2), n -> x.drawer(1, n, asked), Check.NO_SUCH);
            Check.due("drawer(0, 0, " + order + ") without names", withEar().drawer(0, 0, order), Check.NO_SUCH);
            Check.due("drawer(0, 0, " + order + ") without ears", Check.withNames("ta").drawer(0, 0, order), Check.NO_SUCH);
        }
        Sentence.of("BAD_VALUE if order is neither.");
        Check.dueForAll("order", Check.outside(0, 1), n -> x.drawer(0, 0, n), Check.BAD_VALUE);
        Check.dueForAll("order of the last drawer", Check.outside(0, 1), n -> x.drawer(0, 3, n), Check.BAD_VALUE);
    }

    private static void drawerOrder() {
        Sentence.of("order: 0 the drawers in their order; 1 by their codes: shorter ones first, of the same length by their "
            + "numbers from the first one on");
        Index x = withEar("rmlkb", "rmlk", "rmlt", "bat", "tab", "l", "a", "bal", "b");
        x.set(LENGTH, 5);
        // 6 5 4 2 1, 6 5 4 2, 6 5 4 3, 1 3, 3 1, 4, none, 1 4, 1
        Check.due("in their order", Check.drawers(x, 0, 0), "0, 1, 2, 3, 4, 5, 6, 7, 8");
        Check.due("by their codes", Check.drawers(x, 0, 1), "6, 8, 5, 3, 7, 4, 1, 2, 0");
        x.set(LENGTH, 2);
        // 6 5, 6 5, 6 5, 1 3, 3 1, 4, none, 1 4, 1
        Check.due("in their order", Check.drawers(x, 0, 0), "0 1 2, 3, 4, 5, 6, 7, 8");
        Check.due("by their codes", Check.drawers(x, 0, 1), "6, 8, 5, 3, 7, 4, 0 1 2");
        x.habits(0, 4);
        // 27 5 three times, 11 3, 29 1, 21, 10, 11 4, 11
        Check.due("by their codes", Check.drawers(x, 0, 1), "6, 8, 5, 3, 7, 0 1 2, 4");
        Index y = withEar("tl", "za", "ab");
        y.set(LENGTH, 5);
        y.habits(0, 4);
        // 29 4, 35, 10 1: 35 alone is shorter, though it is more
        Check.due("by their codes", Check.drawers(y, 0, 1), "1, 2, 0");
        y.habits(0, 0);
        y.second(0, T, 2);
        // 3 4, 2 4; 2; 1
        Check.due("in their order", Check.drawers(y, 0, 0), "0, 0, 1, 2");
        Check.due("by their codes", Check.drawers(y, 0, 1), "2, 1, 0, 0");
        Index z = withEar("bcbcb", "bcbca", "bcdcb", "bbcbd");
        z.set(LENGTH, 5);
        // 1 2 1 2 1, 1 2 1 2, 1 2 3 2 1, 1 2 1 3
        Check.due("by their codes", Check.drawers(z, 0, 1), "1, 3, 0, 2");
    }

    private static void count() {
        Sentence.under("Promise 16: count");
        Sentence.of("Returns a number.");
        Sentence.changesNothing(() -> withEar("zab"), "count(0)", y -> y.count(0), 1);
        Sentence.of("what: 0 names, 1 ears, 2, 3 the settings, 4 the length of the pad, 5 how many changes can be undone, 6 "
            + "letters that occur in names, as a set");
        Index x = withEar("zab", "cob");
        x.ear(Check.NONE);
        x.ear(Check.NONE);
        x.set(LENGTH, 2);
        x.undo();
        x.undo();
        x.set(NAMES, 7);
        Check.type(x, "~~~~~~~~~");
        int[] due = {2, 2, 4, 7, 9, 5, Check.letters("zabco")};
        for (int what = 0; what < 7; what++) Check.due("count(" + what + ")", x.count(what), due[what]);
        x.set(LENGTH, 3);
        Check.due("count(2)", x.count(2), 3);
        Check.due("count(5)", x.count(5), 6);
        x.set(LENGTH, 3);
        Check.due("count(5) at the most", x.count(5), 6);
        x.drop(1);
        Check.due("count(6) behind drop", x.count(6), Check.letters("zab"));
        x.drop(0);
        Check.due("count(6) without names", x.count(6), 0);
        Check.due("count(0) without names", x.count(0), 0);
        Check.addName(x, "abcdefghij");
        Check.addName(x, "klmnopqrst");
        Check.addName(x, "uvwxyz");
        Check.due("count(6) of all letters", x.count(6), (1 << 26) - 1);
        Sentence.of("Returns the number;");
        Check.due("count(0)", x.count(0), 3);
        Sentence.of("BAD_VALUE if what is out of range.");
        Check.dueForAll("what", Check.outside(0, 6), x::count, Check.BAD_VALUE);
        Check.due("what NONE", x.count(Check.NONE), Check.BAD_VALUE);
    }

    private static void alike() {
        Sentence.under("Promise 17: alike");
        Sentence.of("Tells whether an ear hears two names alike.");
        Sentence.changesNothing(() -> withEar("ta", "da"), "alike(0, 0, 1)", y -> y.alike(0, 0, 1), 1);
        Index x = withEar("ta", "da", "ra", "tata");
        x.ear(Check.NONE);
        x.merge(1, 3, 6);
        Check.due("alike(0, 0, 1)", x.alike(0, 0, 1), 1);
        Check.due("alike(0, 0, 2)", x.alike(0, 0, 2), 0);
        Check.due("alike(1, 0, 2)", x.alike(1, 0, 2), 1);
        Check.due("alike(0, 0, 3)", x.alike(0, 0, 3), 0);
        x.set(LENGTH, 1);
        Check.due("alike(0, 0, 3)", x.alike(0, 0, 3), 1);
        x.second(0, R, 3);
        Check.due("alike(0, 2, 1)", x.alike(0, 2, 1), 1);
        Sentence.of("Returns 1 or 0 (1 for one and the same);");
        for (int ear = 0; ear < 2; ear++) {
            for (int name = 0; name < 4; name++) Check.due("alike with itself", x.alike(ear, name, name), 1);
        }
        Check.due("alike with itself, without a number", withEar("a").alike(0, 0, 0), 1);
        Sentence.of("NO_SUCH if there is no such ear or name.");
        Check.dueForAll("ear", new int[] {-1, 2, 3, 4, -6, Integer.MIN_VALUE, Integer.MAX_VALUE}, n -> x.alike(n, 0, 1),
            Check.NO_SUCH);
        Check.dueForAll("one", Check.outside(0, 3), n -> x.alike(0, n, 0), Check.NO_SUCH);
        Check.dueForAll("other", Check.outside(0, 3), n -> x.alike(0, 0, n), Check.NO_SUCH);
        Check.dueForAll("both", Check.outside(0, 3), n -> x.alike(0, n, n), Check.NO_SUCH);
        Check.due("alike(0, 0, 0) without names", withEar().alike(0, 0, 0), Check.NO_SUCH);
        Check.due("alike(0, 0, 0) without ears", Check.withNames("a").alike(0, 0, 0), Check.NO_SUCH);
        Check.due("alike(0, 0, 32)", x.alike(0, 0, 32), Check.NO_SUCH);
    }

    private static void distance() {
        Sentence.under("Promise 18: distance");
        Sentence.of("Returns the distance of two names.");
        Sentence.changesNothing(() -> Check.withNames("tam", "mat"), "distance(0, 1)", y -> y.distance(0, 1), 2);
        Index x = Check.withNames("tam", "mat", "tamara");
        int[][] due = {{0, 2, 3}, {2, 0, 4}, {3, 4, 0}};
        for (int one = 0; one < 3; one++) {
            for (int other = 0; other < 3; other++) Check.due("distance", x.distance(one, other), due[one][other]);
        }
        Sentence.of("Returns the distance;");
        Check.due("distance(2, 0)", x.distance(2, 0), 3);
        Sentence.of("NO_SUCH if there is no such name.");
        Check.dueForAll("one", Check.outside(0, 2), n -> x.distance(n, 0), Check.NO_SUCH);
        Check.dueForAll("other", Check.outside(0, 2), n -> x.distance(0, n), Check.NO_SUCH);
        Check.dueForAll("both", Check.outside(0, 2), n -> x.distance(n, n), Check.NO_SUCH);
        Check.due("distance(0, 0) without names", new Index().distance(0, 0), Check.NO_SUCH);
        x.drop(0);
        Check.due("distance(0, 2) behind drop", x.distance(0, 2), Check.NO_SUCH);
    }

    private static void foundDue(Index x, String text, String names, String distances) {
        StringBuilder found = new StringBuilder();
        StringBuilder far = new StringBuilder();
        x.wipe();
        Check.type(x, text);
        for (int rank = 0; rank < 30 && x.find(0, rank, 0) >= 0; rank++) {
            found.append(rank == 0 ? "" : " ").append(x.find(0, rank, 0));
            far.append(rank == 0 ? "" : " ").append(x.find(0, rank, 1));
        }
        Check.due("names found for " + text, found.toString(), names);
        Check.due("their distances", far.toString(), distances);
    }

    private static void find() {
        Sentence.under("Promise 19: find");
        Sentence.of("Looks the name that the pad tells up by an ear (the pad stays): names that it hears like it, the nearest "
            + "one first, of several the lowest one.");
        Index x = withEar("tamara", "tom", "sam", "dan", "tim", "cam", "a", "to");
        Check.type(x, "tum");
        x.find(0, 0, 0);
        Check.due("the pad stays", x.count(4), 3);
        Check.due("the pad stays", x.fault(), Check.NONE);
        foundDue(x, "tum", "1 4 3", "1 1 3");
        foundDue(x, "tim", "4 1 3", "0 1 3");
        foundDue(x, "dom", "1 3 4", "1 2 2");
        foundDue(x, "eee", "6", "3");
        foundDue(x, "ttttttttta", "7", "9");
        foundDue(x, "lll", "", "");
        x.second(0, C, 3);
        // cam: 2 5, 3 5
        foundDue(x, "tum", "1 4 5 3", "1 1 2 3");
        foundDue(x, "cum", "5 1 2 4 3", "1 2 2 2 3");
        foundDue(x, "zzm", "2 5", "2 2");
        x.habits(0, 4);
        foundDue(x, "tum", "1 4", "1 1");
        x.habits(0, 2);
        foundDue(x, "tums", "1 4 5 3", "2 2 3 4");
        x.habits(0, 0);
        x.set(LENGTH, 1);
        foundDue(x, "tum", "1 4 5 7 3 0", "1 1 2 2 3 4");
        x.drop(1);
        foundDue(x, "tum", "3 4 6 2 0", "1 2 2 3 4");
        Sentence.changesNothing(() -> {
            Index y = withEar("tom", "tim");
            Check.type(y, "tam");
            return y;
        }, "find(0, 1, 0)", y -> y.find(0, 1, 0), 1);
    }

    private static void findNearest() {
        Sentence.of("rank: 0 for the first one");
        Index x = withEar();
        for (int i = 0; i < 24; i++) Check.addName(x, "t" + "aeio".charAt(i / 6) + "m" + "aeiouy".charAt(i % 6));
        Check.type(x, "tumy");
        // Those that end in y are at the distance 1, all others at 2.
        int rank = 0;
        for (int name = 5; name < 24; name += 6) Check.due("rank " + rank, x.find(0, rank++, 0), name);
        for (int name = 0; name < 24; name++) {
            if (name % 6 != 5) Check.due("rank " + rank, x.find(0, rank++, 0), name);
        }
        Check.due("rank 24 of 24", x.find(0, 24, 0), Check.NO_SUCH);
        Sentence.of("what: 0 the name, 1 its distance");
        for (int i = 0; i < 24; i++) Check.due("distance of rank " + i, x.find(0, i, 1), i < 4 ? 1 : 2);
        Check.due("what 0", x.find(0, 3, 0), 23);
        Sentence.of("Returns the number;");
        Check.due("find(0, 4, 0)", x.find(0, 4, 0), 0);
        Check.due("find(0, 23, 0)", x.find(0, 23, 0), 22);
        x.ear(Check.NONE);
        x.hear(1, T, 0);
        x.drop(11);
        Check.addName(x, "am");
        Check.type(x, "om");
        Check.due("by another ear", x.find(1, 0, 0), 23);
        Check.due("by another ear", x.find(1, 0, 1), 1);
        Check.due("by the first ear", x.find(0, 0, 0), 23);
        Check.due("by the first ear", x.find(0, 1, 0), Check.NO_SUCH);
        // Behind am come those that begin with tom: 17 to 22 now.
        Check.due("by another ear", x.find(1, 1, 0), 17);
        Check.due("by another ear", x.find(1, 23, 1), 3);
    }

    private static void findErrors() {
        Sentence.of("BAD_TEXT if the pad has a fault;");
        Index x = withEar("tam", "dam", "ram");
        Check.due("an empty pad", x.find(0, 0, 0), Check.BAD_TEXT);
        Check.type(x, "tam!");
        Check.due("a fault", x.find(0, 0, 0), Check.BAD_TEXT);
        Check.due("the pad stays", x.count(4), 4);
        x.wipe();
        Check.type(x, "tammmmmmmmm");
        Check.due("eleven characters", x.find(0, 0, 0), Check.BAD_TEXT);
        x.wipe();
        Check.type(x, "tammmmmmmm");
        Check.due("ten characters", x.find(0, 0, 0), 0);
        Sentence.of("NO_SUCH if there is no such ear, or there are not so many;");
        for (int what = 0; what < 2; what++) {
            int asked = what;
            Check.dueForAll("ear", NO_EARS_OF_ONE, n -> x.find(n, 0, asked), Check.NO_SUCH);
            Check.dueForAll("rank of two", Check.outside(0, 1), n -> x.find(0, n, asked), Check.NO_SUCH);
        }
        Check.due("rank 1 of two", x.find(0, 1, 0), 1);
        x.wipe();
        Check.type(x, "la");
        Check.due("rank 0 of none", x.find(0, 0, 0), Check.NO_SUCH);
        Index none = new Index();
        none.put('a');
        Check.due("without ears", none.find(0, 0, 0), Check.NO_SUCH);
        none.ear(Check.NONE);
        Check.due("without names", none.find(0, 0, 0), Check.NO_SUCH);
        Sentence.of("BAD_VALUE if what is neither.");
        x.wipe();
        Check.type(x, "tum");
        Check.dueForAll("what", Check.outside(0, 1), n -> x.find(0, 0, n), Check.BAD_VALUE);
        Check.dueForAll("what of the last one", Check.outside(0, 1), n -> x.find(0, 1, n), Check.BAD_VALUE);
        Check.due("what NONE", x.find(0, 0, Check.NONE), Check.BAD_VALUE);
    }
}
