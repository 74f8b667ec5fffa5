/** Promises 11 to 19: what there is. */
final class QuestionsTest {
    private static final int LENGTH = ConsonantIndex.LENGTH;

    private QuestionsTest() { }

    static void run() {
        name();
        of();
        ofEar();
        code();
        ways();
        drawer();
        mostDrawers();
        count();
        alike();
        distance();
        find();
    }

    private static void name() {
        Check.part("promise 11, name");
        Index x = Check.withNames("azbya", "q", "jihgfedcba");
        int[] due = {5, 0, 25, 1, 24, 0, Check.NONE, Check.NONE, Check.NONE, Check.NONE, Check.NONE, 50331651};
        for (int what = 0; what < due.length; what++) Check.due("name(0, " + what + ")", x.name(0, what), due[what]);
        Check.due("name(1, 0)", x.name(1, 0), 1);
        Check.due("name(1, 1)", x.name(1, 1), 16);
        Check.due("name(1, 2)", x.name(1, 2), Check.NONE);
        Check.due("name(1, 11)", x.name(1, 11), 65536);
        Check.due("name(2, 0)", x.name(2, 0), 10);
        Check.due("name(2, 1)", x.name(2, 1), 9);
        Check.due("name(2, 10)", x.name(2, 10), 0);
        Check.due("name(2, 11)", x.name(2, 11), 1023);
        for (int far : Check.FAR) {
            Check.asked(x, "name(" + far + ", 0)", () -> x.name(far, 0), Check.NO_SUCH);
            Check.asked(x, "name(0, " + far + ")", () -> x.name(0, far), Check.BAD_VALUE);
        }
        Check.asked(x, "name(3, 0)", () -> x.name(3, 0), Check.NO_SUCH);
        Check.asked(x, "name(-1, 12)", () -> x.name(-1, 12), Check.NO_SUCH);
        Check.asked(x, "name(0, 12)", () -> x.name(0, 12), Check.BAD_VALUE);
        Check.asked(x, "name(0, -1)", () -> x.name(0, -1), Check.BAD_VALUE);
    }

    private static void of() {
        Check.part("promise 12, of");
        Index x = Check.withNames("dirk");
        x.ear(Check.NONE);
        x.second(0, 3, 6);
        Check.asked(x, "of(0, d, 0)", () -> x.of(0, 3, 0), 3);
        Check.asked(x, "of(0, d, 1)", () -> x.of(0, 3, 1), 6);
        Check.due("of(0, d, 2)", x.of(0, 3, 2), Check.letters("dt"));
        Check.due("of(0, r, 1)", x.of(0, 17, 1), Check.NONE);
        Check.due("of(0, r, 2), not by second classes", x.of(0, 17, 2), Check.letters("r"));
        Check.due("of(0, z, 2)", x.of(0, 25, 2), Check.letters("cgjkqsxz"));
        Check.due("of(0, a, 2)", x.of(0, 0, 2), Check.letters("aehiouwy"));
        for (int far : Check.FAR) {
            Check.asked(x, "of(" + far + ", 0, 0)", () -> x.of(far, 0, 0), Check.NO_SUCH);
            Check.asked(x, "of(0, " + far + ", 0)", () -> x.of(0, far, 0), Check.NO_SUCH);
            Check.asked(x, "of(0, 0, " + far + ")", () -> x.of(0, 0, far), Check.BAD_VALUE);
        }
        Check.asked(x, "of(1, 0, 3)", () -> x.of(1, 0, 3), Check.NO_SUCH);
        Check.asked(x, "of(0, 26, 3)", () -> x.of(0, 26, 3), Check.NO_SUCH);
        Check.asked(x, "of(0, -1, 3)", () -> x.of(0, -1, 3), Check.NO_SUCH);
        Check.asked(x, "of(0, 0, 3)", () -> x.of(0, 0, 3), Check.BAD_VALUE);
        Check.asked(x, "of(0, 0, -1)", () -> x.of(0, 0, -1), Check.BAD_VALUE);
    }

    private static void ofEar() {
        Check.part("promise 13, ofEar");
        Index x = Check.withNames("tom", "tim", "dan", "sam", "cam", "ria");
        x.ear(Check.NONE);
        int[] first = {0, 0, 3, 3, 0, 4, 0, Check.letters("aehiouwy")};
        for (int what = 0; what < 8; what++) Check.due("ofEar(0, " + what + ")", x.ofEar(0, what), first[what]);
        x.second(0, Check.letter('c'), 3);
        x.second(0, Check.letter('a'), 9);
        x.habits(0, 2);
        x.merge(0, 8, 9);
        x.hear(0, Check.letter('r'), 0);
        // tom 35, tim 35, dan 35 385, sam 25 285, cam 25 35 285 385, ria - 8
        int[] then = {2, 1, 6, 4, Check.bits(2, 3, 4, 5), 7, Check.letters("ac"), Check.letters("aehiouwyr")};
        for (int what = 0; what < 8; what++) Check.due("ofEar(0, " + what + ")", x.ofEar(0, what), then[what]);
        for (int far : Check.FAR) {
            Check.asked(x, "ofEar(" + far + ", 0)", () -> x.ofEar(far, 0), Check.NO_SUCH);
            Check.asked(x, "ofEar(0, " + far + ")", () -> x.ofEar(0, far), Check.BAD_VALUE);
        }
        Check.asked(x, "ofEar(1, 8)", () -> x.ofEar(1, 8), Check.NO_SUCH);
        Check.asked(x, "ofEar(-1, 0)", () -> x.ofEar(-1, 0), Check.NO_SUCH);
        Check.asked(x, "ofEar(0, 8)", () -> x.ofEar(0, 8), Check.BAD_VALUE);
        Check.asked(x, "ofEar(0, -1)", () -> x.ofEar(0, -1), Check.BAD_VALUE);
        Index empty = new Index();
        empty.ear(Check.NONE);
        for (int what = 2; what < 6; what++) Check.due("ofEar(0, " + what + ") of none", empty.ofEar(0, what), 0);
    }

    private static void code() {
        Check.part("promise 14, code");
        Index x = Check.withNames("bobby", "pfbvx", "aeiou", "mnmn", "bcdlmr", "tsetse", "bb");
        x.ear(Check.NONE);
        Check.due("a vowel parts", Check.codeOf(x, 0, 0, 0), "code 1 1");
        Check.due("the same class is put once", Check.codeOf(x, 0, 1, 0), "code 1 2");
        Check.due("silent letters alone", Check.codeOf(x, 0, 2, 0), "code");
        Check.due("code(0, 2, 0, 0)", x.code(0, 2, 0, 0), Check.NONE);
        Check.due("code(0, 2, 0, 6)", x.code(0, 2, 0, 6), 2);
        Check.due("mnmn", Check.codeOf(x, 0, 3, 0), "code 5");
        Check.due("at most LENGTH", Check.codeOf(x, 0, 4, 0), "code 1 2 3 4");
        Check.due("code(0, 4, 0, 3)", x.code(0, 4, 0, 3), 4);
        Check.due("code(0, 4, 0, 4)", x.code(0, 4, 0, 4), Check.NONE);
        x.set(LENGTH, 5);
        Check.due("code(0, 4, 0, 4)", x.code(0, 4, 0, 4), 5);
        Check.due("code(0, 4, 0, 5)", x.code(0, 4, 0, 5), 5);
        Check.due("tsetse", Check.codeOf(x, 0, 5, 0), "code 3 2 3 2");
        Check.due("code(0, 6, 0, 6)", x.code(0, 6, 0, 6), 6);
        x.set(LENGTH, 1);
        Check.due("drawer of the one that came first", x.code(0, 6, 0, 6), 0);
        Check.due("code(0, 5, 0, 6)", x.code(0, 5, 0, 6), 3);
        codeErrors(x);
    }

    private static void codeErrors(Index x) {
        for (int far : Check.FAR) {
            Check.asked(x, "code(" + far + ", 0, 0, 0)", () -> x.code(far, 0, 0, 0), Check.NO_SUCH);
            Check.asked(x, "code(0, " + far + ", 0, 0)", () -> x.code(0, far, 0, 0), Check.NO_SUCH);
            Check.asked(x, "code(0, 0, " + far + ", 0)", () -> x.code(0, 0, far, 0), Check.NO_SUCH);
            Check.asked(x, "code(0, 0, 0, " + far + ")", () -> x.code(0, 0, 0, far), Check.BAD_VALUE);
        }
        Check.asked(x, "code(1, 0, 0, 7)", () -> x.code(1, 0, 0, 7), Check.NO_SUCH);
        Check.asked(x, "code(0, 7, 0, 7)", () -> x.code(0, 7, 0, 7), Check.NO_SUCH);
        Check.asked(x, "code(0, 0, 1, 7)", () -> x.code(0, 0, 1, 7), Check.NO_SUCH);
        Check.asked(x, "code(0, 0, -1, 7)", () -> x.code(0, 0, -1, 7), Check.NO_SUCH);
        Check.asked(x, "code(0, 0, 0, 7)", () -> x.code(0, 0, 0, 7), Check.BAD_VALUE);
        Check.asked(x, "code(0, 0, 0, -1)", () -> x.code(0, 0, 0, -1), Check.BAD_VALUE);
        Check.asked(x, "code(0, 0, 0, 1)", () -> x.code(0, 0, 0, 1), Check.NONE);
    }

    private static void codesDue(Index x, int name, String... codes) {
        for (int which = 0; which < 5; which++) {
            String due = which < codes.length ? codes[which] : "error -1";
            Check.due("code " + which + " of " + Check.nameAt(x, name), Check.codeOf(x, 0, name, which), due);
        }
    }

    private static void ways() {
        Check.part("promise 14, ways to hear");
        Index x = Check.withNames("tatata", "ct", "tc", "tt", "bab", "babcd", "t");
        x.ear(Check.NONE);
        x.second(0, Check.letter('t'), 8);
        x.second(0, Check.letter('c'), 3);
        x.second(0, Check.letter('b'), 0);
        codesDue(x, 0, "code 3 3 3", "code 8 3 3", "code 3 8 3", "code 8 8 3");
        codesDue(x, 1, "code 2 3", "code 3", "code 2 8", "code 3 8");
        codesDue(x, 2, "code 3 2", "code 8 2", "code 3", "code 8 3");
        codesDue(x, 3, "code 3", "code 8 3", "code 3 8", "code 8");
        codesDue(x, 4, "code 1 1", "code 1", "code");
        codesDue(x, 5, "code 1 1 2 3", "code 1 2 3", "code 2 3");
        codesDue(x, 6, "code 3", "code 8");
        Check.due("drawers in the order of the ways", x.code(0, 1, 1, 6), 5);
        Check.due("drawers in the order of the ways", x.code(0, 1, 3, 6), 7);
        x.set(LENGTH, 1);
        codesDue(x, 0, "code 3", "code 8");
        codesDue(x, 1, "code 2", "code 3");
        codesDue(x, 4, "code 1", "code");
        Check.due("names in two drawers", x.ofEar(0, 4), Check.bits(0, 1, 2, 3, 4, 5, 6));
        Check.due("drawers", x.ofEar(0, 2), 5);
    }

    private static void drawer() {
        Check.part("promise 15, drawer");
        Index x = Check.withNames("rat", "tar", "a", "rot", "bin", "bat", "bid", "r");
        x.ear(Check.NONE);
        // 63, 36, -, 63, 15, 13, 13, 6
        int[] byNames = {Check.bits(0, 3), Check.bits(1), Check.bits(2), Check.bits(4), Check.bits(5, 6), Check.bits(7)};
        int[] byCodes = {Check.bits(2), Check.bits(7), Check.bits(5, 6), Check.bits(4), Check.bits(1), Check.bits(0, 3)};
        for (int i = 0; i < 6; i++) {
            Check.due("drawer(0, " + i + ", 0)", x.drawer(0, i, 0), byNames[i]);
            Check.due("drawer(0, " + i + ", 1)", x.drawer(0, i, 1), byCodes[i]);
        }
        for (int far : Check.FAR) {
            Check.asked(x, "drawer(" + far + ", 0, 0)", () -> x.drawer(far, 0, 0), Check.NO_SUCH);
            Check.asked(x, "drawer(0, " + far + ", 0)", () -> x.drawer(0, far, 0), Check.NO_SUCH);
            Check.asked(x, "drawer(0, 0, " + far + ")", () -> x.drawer(0, 0, far), Check.BAD_VALUE);
        }
        Check.asked(x, "drawer(1, 0, 2)", () -> x.drawer(1, 0, 2), Check.NO_SUCH);
        Check.asked(x, "drawer(0, 6, 2)", () -> x.drawer(0, 6, 2), Check.NO_SUCH);
        Check.asked(x, "drawer(0, 6, 1)", () -> x.drawer(0, 6, 1), Check.NO_SUCH);
        Check.asked(x, "drawer(0, -1, 2)", () -> x.drawer(0, -1, 2), Check.NO_SUCH);
        Check.asked(x, "drawer(0, 5, 2)", () -> x.drawer(0, 5, 2), Check.BAD_VALUE);
        Check.asked(x, "drawer(0, 5, -1)", () -> x.drawer(0, 5, -1), Check.BAD_VALUE);
        x.habits(0, 4);
        // 27 3, 29 6, 10, 27 3, 11 5, 11 3, 11 3, 27: ones told by themselves stand behind all classes
        int[] told = {Check.bits(2), Check.bits(7), Check.bits(5, 6), Check.bits(4), Check.bits(0, 3), Check.bits(1)};
        for (int i = 0; i < 6; i++) Check.due("drawer(0, " + i + ", 1)", x.drawer(0, i, 1), told[i]);
        x.habits(0, 0);
        x.second(0, Check.letter('b'), 6);
        // bin 15 65, bat and bid 13 63: a drawer that a second code shares with a first one
        Check.due("drawer(0, 0, 0)", x.drawer(0, 0, 0), Check.bits(0, 3, 5, 6));
        Check.due("drawer(0, 4, 0)", x.drawer(0, 4, 0), Check.bits(4));
        Check.due("drawer(0, 5, 0)", x.drawer(0, 5, 0), Check.bits(5, 6));
        Check.due("drawer(0, 6, 0)", x.drawer(0, 6, 0), Check.bits(7));
    }

    /** 24 names with four codes each, no code twice. */
    private static void mostDrawers() {
        Check.part("promise 15, the most drawers");
        Index x = new Index();
        x.ear(Check.NONE);
        x.second(0, Check.letter('t'), 7);
        x.set(LENGTH, 5);
        String ends = "brlmc";
        int many = 0;
        for (int i = 0; i < 25 && many < 24; i++) {
            String name = "tat" + ends.charAt(i / 5) + "a" + ends.charAt(i % 5);
            Check.due("add() of " + name, Check.addName(x, name), many);
            many++;
        }
        Check.due("ofEar(0, 2)", x.ofEar(0, 2), 96);
        Check.due("ofEar(0, 3)", x.ofEar(0, 3), 1);
        Check.due("ofEar(0, 4)", x.ofEar(0, 4), (1 << 24) - 1);
        Check.due("ofEar(0, 5)", x.ofEar(0, 5), 0);
        for (int drawer = 0; drawer < 96; drawer++) {
            Check.due("drawer(0, " + drawer + ", 0)", x.drawer(0, drawer, 0), 1 << drawer / 4);
        }
        Check.due("drawer(0, 96, 0)", x.drawer(0, 96, 0), Check.NO_SUCH);
        Check.due("drawer(0, 96, 1)", x.drawer(0, 96, 1), Check.NO_SUCH);
        Check.due("code(0, 23, 3, 6)", x.code(0, 23, 3, 6), 95);
        Check.due("find of the last one", Check.find(x, "tatcam", 0, 0, 0), 23);
        Check.due("find of no other one", Check.find(x, "tatcam", 0, 1, 0), Check.NO_SUCH);
        // tatr?? is 3 3 6 ..: the last ones by their codes begin with 7 7 6
        Check.due("drawer(0, 95, 1)", x.drawer(0, 95, 1), 1 << 6);
        Check.due("drawer(0, 0, 1)", x.drawer(0, 0, 1), 1);
    }

    private static void count() {
        Check.part("promise 16, count");
        Index x = Check.withNames("ada", "zoe");
        x.ear(Check.NONE);
        x.set(LENGTH, 3);
        x.set(ConsonantIndex.NAMES, 20);
        Check.type(x, "!?");
        int[] due = {2, 1, 3, 20, 2, 5, Check.letters("adzoe")};
        for (int what = 0; what < due.length; what++) {
            int asked = what;
            Check.asked(x, "count(" + what + ")", () -> x.count(asked), due[what]);
        }
        x.drop(0);
        Check.due("count(6)", x.count(6), Check.letters("zoe"));
        Check.due("count(5)", x.count(5), 6);
        x.drop(0);
        Check.due("count(6)", x.count(6), 0);
        Check.due("count(5)", x.count(5), 6);
        for (int far : Check.FAR) Check.asked(x, "count(" + far + ")", () -> x.count(far), Check.BAD_VALUE);
        Check.asked(x, "count(7)", () -> x.count(7), Check.BAD_VALUE);
        Check.asked(x, "count(-1)", () -> x.count(-1), Check.BAD_VALUE);
    }

    private static void alike() {
        Check.part("promise 17, alike");
        Index x = Check.withNames("tom", "dan", "sam", "cam", "ram", "aa");
        x.ear(Check.NONE);
        x.second(0, Check.letter('c'), 3);
        boolean[][] due = {
            {true, true, false, true, false, false},
            {true, true, false, true, false, false},
            {false, false, true, true, false, false},
            {true, true, true, true, false, false},
            {false, false, false, false, true, false},
            {false, false, false, false, false, true},
        };
        for (int one = 0; one < 6; one++) {
            for (int other = 0; other < 6; other++) {
                Check.due("alike(0, " + one + ", " + other + ")", x.alike(0, one, other), due[one][other] ? 1 : 0);
            }
        }
        for (int far : Check.FAR) {
            Check.asked(x, "alike(" + far + ", 0, 0)", () -> x.alike(far, 0, 0), Check.NO_SUCH);
            Check.asked(x, "alike(0, " + far + ", 0)", () -> x.alike(0, far, 0), Check.NO_SUCH);
            Check.asked(x, "alike(0, 0, " + far + ")", () -> x.alike(0, 0, far), Check.NO_SUCH);
        }
        Check.asked(x, "alike(1, 0, 0)", () -> x.alike(1, 0, 0), Check.NO_SUCH);
        Check.asked(x, "alike(0, 6, 6)", () -> x.alike(0, 6, 6), Check.NO_SUCH);
        Check.asked(x, "alike(0, 0, 6)", () -> x.alike(0, 0, 6), Check.NO_SUCH);
        Check.asked(x, "alike(0, -1, 0)", () -> x.alike(0, -1, 0), Check.NO_SUCH);
    }

    private static void distance() {
        Check.part("promise 18, distance");
        Index x = Check.withNames("kitten", "sitting", "a", "abcdefghij", "bcdefghija", "zzzzzzzzzz", "ab", "ba");
        int[][] due = {
            {0, 3, 6, 9, 10, 10, 6, 6},
            {3, 0, 7, 9, 9, 10, 7, 7},
            {6, 7, 0, 9, 9, 10, 1, 1},
            {9, 9, 9, 0, 2, 10, 8, 9},
            {10, 9, 9, 2, 0, 10, 10, 8},
            {10, 10, 10, 10, 10, 0, 10, 10},
            {6, 7, 1, 8, 10, 10, 0, 2},
            {6, 7, 1, 9, 8, 10, 2, 0},
        };
        for (int one = 0; one < 8; one++) {
            for (int other = 0; other < 8; other++) {
                Check.due("distance(" + one + ", " + other + ")", x.distance(one, other), due[one][other]);
            }
        }
        for (int far : Check.FAR) {
            Check.asked(x, "distance(" + far + ", 0)", () -> x.distance(far, 0), Check.NO_SUCH);
            Check.asked(x, "distance(0, " + far + ")", () -> x.distance(0, far), Check.NO_SUCH);
        }
        Check.asked(x, "distance(8, 8)", () -> x.distance(8, 8), Check.NO_SUCH);
        Check.asked(x, "distance(-1, 0)", () -> x.distance(-1, 0), Check.NO_SUCH);
    }

    private static void find() {
        Check.part("promise 19, find");
        Index x = Check.withNames("tamara", "tom", "sam", "dan", "tim", "cam");
        x.ear(Check.NONE);
        x.second(0, Check.letter('c'), 3);
        int[] names = {1, 4, 5, 3};
        int[] distances = {1, 1, 2, 3};
        Check.type(x, "tm");
        for (int i = 0; i < 4; i++) {
            int rank = i;
            Check.asked(x, "find(0, " + i + ", 0)", () -> x.find(0, rank, 0), names[i]);
            Check.asked(x, "find(0, " + i + ", 1)", () -> x.find(0, rank, 1), distances[i]);
        }
        Check.asked(x, "find(0, 4, 0)", () -> x.find(0, 4, 0), Check.NO_SUCH);
        Check.due("a name itself is heard like it", Check.find(x, "tim", 0, 0, 0), 4);
        Check.due("a name itself is heard like it", Check.find(x, "tim", 0, 0, 1), 0);
        Check.due("a text with several codes", Check.find(x, "cem", 0, 0, 0), 5);
        Check.due("a text with several codes", Check.find(x, "cem", 0, 4, 0), 3);
        Check.due("a text with several codes", Check.find(x, "cem", 0, 5, 0), Check.NO_SUCH);
        Check.due("the pad stays", x.count(4), 3);
        findErrors(x);
        Check.due("a code that no name has", Check.find(x, "rrr", 0, 0, 0), Check.NO_SUCH);
        Index empty = new Index();
        empty.ear(Check.NONE);
        Check.due("without names", Check.find(empty, "tim", 0, 0, 0), Check.NO_SUCH);
        Check.addName(empty, "tom");
        Check.due("a name that has just come", Check.find(empty, "tim", 0, 0, 0), 0);
        empty.habits(0, 4);
        Check.due("a habit that has just come", Check.find(empty, "dim", 0, 0, 0), Check.NO_SUCH);
        findInFull();
    }

    private static void findInFull() {
        Index full = new Index();
        for (int i = 0; i < 24; i++) Check.addName(full, "t" + "aeio".charAt(i / 6) + "m" + "aeiouy".charAt(i % 6));
        full.ear(Check.NONE);
        int rank = 0;
        for (int name = 5; name < 24; name += 6) Check.due("a near one of 24", Check.find(full, "tumy", 0, rank++, 0), name);
        for (int name = 0; name < 24; name++) {
            if (name % 6 != 5) Check.due("a far one of 24", Check.find(full, "tumy", 0, rank++, 0), name);
        }
        Check.due("rank 24 of 24", Check.find(full, "tumy", 0, 24, 0), Check.NO_SUCH);
    }

    private static void findErrors(Index x) {
        for (int far : Check.FAR) {
            Check.asked(x, "find(" + far + ", 0, 0)", () -> x.find(far, 0, 0), Check.NO_SUCH);
            Check.asked(x, "find(0, " + far + ", 0)", () -> x.find(0, far, 0), Check.NO_SUCH);
            Check.asked(x, "find(0, 0, " + far + ")", () -> x.find(0, 0, far), Check.BAD_VALUE);
        }
        Check.asked(x, "find(1, 0, 2)", () -> x.find(1, 0, 2), Check.NO_SUCH);
        Check.asked(x, "find(0, 5, 2)", () -> x.find(0, 5, 2), Check.NO_SUCH);
        Check.asked(x, "find(0, -1, 2)", () -> x.find(0, -1, 2), Check.NO_SUCH);
        Check.asked(x, "find(0, 0, 2)", () -> x.find(0, 0, 2), Check.BAD_VALUE);
        Check.asked(x, "find(0, 0, -1)", () -> x.find(0, 0, -1), Check.BAD_VALUE);
        Check.type(x, "!");
        Check.asked(x, "find(1, 9, 9) with a fault", () -> x.find(1, 9, 9), Check.BAD_TEXT);
        x.wipe();
        Check.asked(x, "find(0, 0, 0) of nothing", () -> x.find(0, 0, 0), Check.BAD_TEXT);
    }
}
