/** The terms of the document, sentence by sentence: ears, codes and drawers, mergers. */
final class EarsSentences {
    private static final int LENGTH = ConsonantIndex.LENGTH;
    private static final int B = 1, C = 2, D = 3, F = 5, G = 6, H = 7, L = 11, M = 12, R = 17, S = 18, T = 19;
    private static final String[] FIRST_CLASSES = {"aehiouwy", "bfpv", "cgjkqsxz", "dt", "l", "mn", "r"};

    private EarsSentences() { }

    static void run() {
        Sentence.under("Ears");
        numbersOfEars();
        classes();
        atFirst();
        secondsUnlikeClasses();
        habitsAsSet();
        silentH();
        silentS();
        firstByItself();
        rowOfNumbers();
        hearing();
        puttingBehind();
        silentLettersPart();
        openLetters();
        fourWays();
        waysByNumber();
        codesOnce();
        drawers();
        orderOfDrawers();
        alike();
        Sentence.under("Mergers");
        merging();
        sixMergers();
        splitting();
        splittingSeconds();
        splittingEachLetter();
    }

    private static Index withEar(String... names) {
        Index x = Check.withNames(names);
        x.ear(Check.NONE);
        return x;
    }

    private static void codesDue(Index x, int name, String want) {
        Check.due("codes of " + Check.nameAt(x, name), Check.codes(x, 0, name), want);
    }

    private static void codesDue(String name, String want, Sentence.Call change) {
        Check.due("codes of " + name, Check.codes(name, change), want);
    }

    private static void numbersOfEars() {
        Sentence.of("There are up to 4 ears, numbered in the order in which they came.");
        Index x = new Index();
        for (int ear = 0; ear < 4; ear++) {
            Check.due("ofEar(" + ear + ", 0)", x.ofEar(ear, 0), Check.NO_SUCH);
            Check.due("ear(NONE)", x.ear(Check.NONE), ear);
            Check.due("count(1)", x.count(1), ear + 1);
            x.habits(ear, ear + 1);
        }
        Check.due("ear(NONE), the fifth", x.ear(Check.NONE), Check.TOO_MANY);
        Check.due("count(1)", x.count(1), 4);
        for (int ear = 0; ear < 4; ear++) Check.due("habits of ear " + ear, x.ofEar(ear, 0), ear + 1);
        Check.due("ofEar(4, 0)", x.ofEar(4, 0), Check.NO_SUCH);
    }

    private static void classes() {
        Sentence.of("For each letter an ear has a class, 0 to 9 (0: it is silent), and perhaps a second class, 0 to 9.");
        Index x = withEar("t");
        for (int kind = 0; kind <= 9; kind++) {
            x.hear(0, T, kind);
            Check.due("class", x.of(0, T, 0), kind);
            codesDue(x, 0, kind == 0 ? "-" : "" + kind);
            int other = 9 - kind;
            x.second(0, T, other);
            Check.due("second class", x.of(0, T, 1), other);
            codesDue(x, 0, (kind == 0 ? "-" : kind) + ", " + (other == 0 ? "-" : other));
            x.second(0, T, Check.NONE);
            Check.due("no second class", x.of(0, T, 1), Check.NONE);
        }
        Check.due("class -1", x.hear(0, T, -1), Check.BAD_VALUE);
        Check.due("class 10", x.hear(0, T, 10), Check.BAD_VALUE);
        Check.due("second class -1", x.second(0, T, -1), Check.BAD_VALUE);
        Check.due("second class 10", x.second(0, T, 10), Check.BAD_VALUE);
        for (int letter = 0; letter < 26; letter++) {
            Index y = withEar("t");
            y.hear(0, letter, 9);
            y.second(0, letter, 8);
            for (int other = 0; other < 26; other++) {
                Check.due("class of " + other, y.of(0, other, 0) == 9 ? 1 : 0, other == letter ? 1 : 0);
                Check.due("second class of " + other, y.of(0, other, 1), other == letter ? 8 : Check.NONE);
            }
        }
    }

    private static void atFirst() {
        Sentence.of("At first: 0 for a, e, h, i, o, u, w, y; 1 for b, f, p, v; 2 for c, g, j, k, q, s, x, z; 3 for d, t; "
            + "4 for l; 5 for m, n; 6 for r; and no second ones.");
        Index x = new Index();
        for (int ear = 0; ear < 4; ear++) {
            x.ear(Check.NONE);
            for (int kind = 0; kind < FIRST_CLASSES.length; kind++) {
                for (char sign : FIRST_CLASSES[kind].toCharArray()) {
                    Check.due("class of " + sign, x.of(ear, Check.letter(sign), 0), kind);
                    Check.due("letters like " + sign, x.of(ear, Check.letter(sign), 2), Check.letters(FIRST_CLASSES[kind]));
                }
            }
            for (int letter = 0; letter < 26; letter++) Check.due("second class", x.of(ear, letter, 1), Check.NONE);
            Check.due("letters with a second class", x.ofEar(ear, 6), 0);
        }
    }

    private static void secondsUnlikeClasses() {
        Sentence.of("A second class is never the same as the class: where it would be, it is gone.");
        Index x = withEar("t");
        x.second(0, T, 8);
        Check.due("second(0, t, 3)", x.second(0, T, 3), Check.NOT_POSSIBLE);
        Check.due("it stays", x.of(0, T, 1), 8);
        x.hear(0, T, 8);
        Check.due("gone by hear", x.of(0, T, 1), Check.NONE);
        codesDue(x, 0, "8");
        x.hear(0, T, 3);
        Check.due("it is gone for good", x.of(0, T, 1), Check.NONE);
        x.second(0, T, 8);
        x.merge(0, 8, 3);
        Check.due("gone by a merger of the class into it", x.of(0, T, 1), Check.NONE);
        x.hear(0, T, 3);
        x.second(0, T, 9);
        x.merge(0, 3, 9);
        Check.due("gone by its merger into the class", x.of(0, T, 1), Check.NONE);
        x.merge(0, 3, 7);
        x.hear(0, T, 7);
        x.merge(0, 4, 7);
        x.second(0, T, 7);
        Check.due("a second class that is the merged one", x.of(0, T, 1), 7);
        x.split(0);
        Check.due("the class is split off", x.of(0, T, 0), 7);
        Check.due("gone by a split of the class", x.of(0, T, 1), Check.NONE);
        Index y = withEar("t");
        y.second(0, T, 7);
        y.merge(0, 8, 7);
        y.hear(0, T, 7);
        Check.due("a second class that was merged", y.of(0, T, 1), 8);
        y.split(0);
        Check.due("the class stays", y.of(0, T, 0), 7);
        Check.due("gone by a split of the second class", y.of(0, T, 1), Check.NONE);
        Check.due("letters with a second class", y.ofEar(0, 6), 0);
    }

    private static void habitsAsSet() {
        Sentence.of("An ear can have habits (none at first), as a set:");
        Index x = withEar("shahs");
        x.hear(0, H, 7);
        Check.due("at first", x.ofEar(0, 0), 0);
        String[] codes = {"2 7 7 2", "2 7 2", "2 7 7", "2 7", "28 7 7 2", "28 7 2", "28 7 7", "28 7"};
        for (int habits = 0; habits < 8; habits++) {
            x.habits(0, habits);
            Check.due("ofEar(0, 0)", x.ofEar(0, 0), habits);
            codesDue(x, 0, codes[habits]);
        }
    }

    private static void silentH() {
        Sentence.of("1 an h behind c, p, s or t is silent, whatever its classes are;");
        for (char sign = 'a'; sign <= 'z'; sign++) {
            String name = "l" + sign + "hr";
            boolean silent = sign == 'c' || sign == 'p' || sign == 's' || sign == 't';
            // All letters but l and r are silent, and h is heard as 7 or 8: so nothing but h stands between l and r.
            Sentence.Call change = x -> {
                for (int kind : new int[] {1, 2, 3, 5}) x.merge(0, 0, kind);
                x.hear(0, H, 7);
                x.second(0, H, 8);
                return x.habits(0, 1);
            };
            String open = sign == 'h' ? "4 7 6, 4 8 7 6, 4 7 8 6, 4 8 6" : "4 7 6, 4 8 6";
            if (sign == 'l') open = "4 7 6, 4 8 6";
            if (sign == 'r') open = "4 6 7 6, 4 6 8 6";
            codesDue(name, silent ? "4 6" : open, change);
        }
        codesDue("ch", "2 7", x -> x.hear(0, H, 7));
        codesDue("ch", "2", x -> x.hear(0, H, 7) + x.habits(0, 1));
        codesDue("hl", "7 4", x -> x.hear(0, H, 7) + x.habits(0, 1));
        codesDue("h", "7", x -> x.hear(0, H, 7) + x.habits(0, 1));
        codesDue("cah", "2 7", x -> x.hear(0, H, 7) + x.habits(0, 1));
        codesDue("chh", "2 7", x -> x.hear(0, H, 7) + x.habits(0, 1));
        codesDue("hc", "7 2", x -> x.hear(0, H, 7) + x.habits(0, 1));
        codesDue("shs", "2 2", x -> x.hear(0, H, 2) + x.habits(0, 1));
        codesDue("aaaaaaaath", "3", x -> x.hear(0, H, 7) + x.habits(0, 1));
        codesDue("phl", "25 4", x -> x.hear(0, H, 7) + x.habits(0, 5));
        codesDue("ph", "1 7", x -> x.hear(0, H, 7) + x.habits(0, 2));
        codesDue("ph", "25 7", x -> x.hear(0, H, 7) + x.habits(0, 4));
    }

    private static void silentS() {
        Sentence.of("2 an s that ends a name, and is not its only letter, is silent;");
        Sentence.Call habit = x -> x.habits(0, 2);
        codesDue("s", "2", habit);
        codesDue("as", "-", habit);
        codesDue("ss", "2", habit);
        codesDue("sas", "2", habit);
        codesDue("tas", "3", habit);
        codesDue("ast", "2 3", habit);
        codesDue("asa", "2", habit);
        codesDue("tasss", "3 2", habit);
        codesDue("taz", "3 2", habit);
        codesDue("ttttttttts", "3", habit);
        codesDue("ttttttttss", "3 2", habit);
        codesDue("ttttttttst", "3 2 3", habit);
        codesDue("tas", "3 2", x -> x.habits(0, 0));
        codesDue("tas", "3 2", x -> x.habits(0, 1));
        codesDue("tas", "29 2", x -> x.habits(0, 4));
        codesDue("s", "28", x -> x.habits(0, 6));
        codesDue("tas", "3", x -> x.second(0, S, 9) + x.habits(0, 2));
        codesDue("s", "2, 9", x -> x.second(0, S, 9) + x.habits(0, 2));
        codesDue("sas", "2, 9", x -> x.second(0, S, 9) + x.habits(0, 2));
    }

    private static void firstByItself() {
        Sentence.of("4 the first letter of a name is told by itself: as 10 and its number, whatever its classes are.");
        for (int letter = 0; letter < 26; letter++) {
            int first = letter;
            String sign = "" + (char) ('a' + letter);
            codesDue(sign, "" + (10 + letter), x -> x.habits(0, 4));
            codesDue(sign, "" + (10 + letter), x -> x.hear(0, first, 0) + x.second(0, first, 9) + x.habits(0, 4));
            // The second letter is heard by its classes, though it is the same one.
            codesDue(sign + sign, 10 + letter + " 8, " + (10 + letter) + " 9",
                x -> x.hear(0, first, 8) + x.second(0, first, 9) + x.habits(0, 4));
        }
        codesDue("aa", "10", x -> x.habits(0, 4));
        codesDue("ab", "10 1", x -> x.habits(0, 4));
        codesDue("bab", "11 1", x -> x.habits(0, 4));
        codesDue("bcdlmr", "11", x -> x.habits(0, 4) + x.set(LENGTH, 1));
        codesDue("bcdlmr", "11 2 3 4", x -> x.habits(0, 4));
        codesDue("b", "1", x -> x.habits(0, 3));
    }

    private static void rowOfNumbers() {
        Sentence.of("A code is a row of up to LENGTH numbers.");
        String[] whole = {"1", "1 2", "1 2 3", "1 2 3 4", "1 2 3 4 5"};
        for (int length = 1; length <= 5; length++) {
            int most = length;
            codesDue("bcdlmr", whole[length - 1], x -> x.set(LENGTH, most));
            codesDue("bcdlm", whole[length - 1], x -> x.set(LENGTH, most));
            codesDue("b", "1", x -> x.set(LENGTH, most));
            codesDue("a", "-", x -> x.set(LENGTH, most));
        }
        codesDue("abacadalam", "1 2 3 4 5", x -> x.set(LENGTH, 5));
        Index x = withEar("bcdlmr");
        x.set(LENGTH, 5);
        codesDue(x, 0, "1 2 3 4 5");
        x.set(LENGTH, 2);
        codesDue(x, 0, "1 2");
        x.set(LENGTH, 3);
        codesDue(x, 0, "1 2 3");
    }

    private static void hearing() {
        Sentence.of("To hear a name: its letters are gone through; each one is heard as its class (as a habit tells, if one "
            + "does).");
        codesDue("rml", "6 5 4", x -> 0);
        codesDue("lmr", "4 5 6", x -> 0);
        codesDue("rml", "9 5 4", x -> x.hear(0, R, 9));
        codesDue("tsts", "3 2 3 2", x -> 0);
        codesDue("tsts", "29 2 3", x -> x.habits(0, 6));
        codesDue("aeiouwyhal", "4", x -> 0);
        codesDue("t", "3", x -> 0);
    }

    private static void puttingBehind() {
        Sentence.of("A class above 0, or a letter told by itself, is put behind the code, if it is not the same as what the "
            + "letter just ahead of it was heard as, and the code has fewer than LENGTH numbers.");
        codesDue("bfpv", "1", x -> 0);
        codesDue("bb", "1", x -> 0);
        codesDue("bcb", "1 2 1", x -> 0);
        codesDue("bbccbb", "1 2 1", x -> 0);
        codesDue("bcbcbcbcbc", "1 2 1 2", x -> 0);
        codesDue("bbbbbbbbbc", "1 2", x -> 0);
        codesDue("bc", "1", x -> x.hear(0, C, 1));
        codesDue("bc", "1 9", x -> x.hear(0, C, 9));
        // What the letter just ahead was heard as goes by the way: by its second class, if that one is taken.
        codesDue("bc", "1 2, 2", x -> x.second(0, B, 2));
        codesDue("bc", "1 2, 1", x -> x.second(0, C, 1));
        codesDue("bcb", "1 2 1, 1", x -> x.second(0, C, 1));
        codesDue("bf", "11 1", x -> x.habits(0, 4));
        codesDue("cba", "12 1", x -> x.habits(0, 4));
        codesDue("tstr", "3 2", x -> x.set(LENGTH, 2));
        codesDue("tttsr", "3 2", x -> x.set(LENGTH, 2));
        codesDue("ttt", "3", x -> x.set(LENGTH, 1));
        // The class that is not put any more differs by the way: it makes no other code.
        codesDue("tst", "3", x -> x.set(LENGTH, 1) + x.second(0, S, 9));
    }

    private static void silentLettersPart() {
        Sentence.of("(A silent letter is heard as 0, and parts.)");
        codesDue("bab", "1 1", x -> 0);
        codesDue("baab", "1 1", x -> 0);
        codesDue("bfabf", "1 1", x -> 0);
        codesDue("bhb", "1 1", x -> 0);
        codesDue("bwbyb", "1 1 1", x -> 0);
        codesDue("babababab", "1 1 1 1", x -> 0);
        codesDue("abba", "1", x -> 0);
        codesDue("bcb", "1 1", x -> x.hear(0, C, 0));
        codesDue("shs", "2 2", x -> x.hear(0, H, 2) + x.habits(0, 1));
        codesDue("shs", "2", x -> x.hear(0, H, 2));
        codesDue("bcb", "1 2 1, 1 1", x -> x.second(0, C, 0));
        codesDue("bab", "1 1, 1", x -> x.second(0, 0, 1));
    }

    private static void openLetters() {
        Sentence.of("A letter is open if it is heard by its classes, and has a second one.");
        codesDue("ta", "3", x -> 0);
        codesDue("ta", "3, 8", x -> x.second(0, T, 8));
        codesDue("ta", "3", x -> x.second(0, T, 8) + x.second(0, T, Check.NONE));
        codesDue("ta", "3, 3 9", x -> x.second(0, 0, 9));
        codesDue("ta", "3, -", x -> x.second(0, T, 0));
        codesDue("ra", "6", x -> x.second(0, T, 8));
        // A letter that a habit tells is not open: the next ones are the first two open ones.
        codesDue("tltm", "29 4 3 5, 29 4 8 5", x -> x.second(0, T, 8) + x.habits(0, 4));
        codesDue("tltm", "3 4 3 5, 8 4 3 5, 3 4 8 5, 8 4 8 5", x -> x.second(0, T, 8) + x.habits(0, 3));
        codesDue("thah", "3, 3 9", x -> x.second(0, H, 9) + x.habits(0, 1));
        codesDue("thah", "3, 3 9, 3 9 9", x -> x.second(0, H, 9));
        codesDue("sls", "2 4, 9 4", x -> x.second(0, S, 9) + x.habits(0, 2));
        codesDue("sls", "28 4", x -> x.second(0, S, 9) + x.habits(0, 6));
        codesDue("s", "2, 9", x -> x.second(0, S, 9) + x.habits(0, 2));
        codesDue("thtl", "29 3 4, 29 8 4", x -> x.second(0, T, 8) + x.second(0, H, 9) + x.habits(0, 5));
    }

    private static void fourWays() {
        Sentence.of("With the first two open letters of a name (all others by their first classes) heard as the first or the "
            + "second class, there are up to four ways to hear it:");
        codesDue("tatatata", "3 3 3 3, 8 3 3 3, 3 8 3 3, 8 8 3 3", x -> x.second(0, T, 8));
        codesDue("talama", "3 4 5, 7 4 5, 3 8 5, 7 8 5",
            x -> x.second(0, T, 7) + x.second(0, L, 8) + x.second(0, M, 9));
        codesDue("ratama", "6 3 5, 6 7 5, 6 3 9, 6 7 9", x -> x.second(0, T, 7) + x.second(0, M, 9));
        codesDue("ratala", "6 3 4, 6 7 4", x -> x.second(0, T, 7));
        // All ten letters are open, the first two of them in ways.
        codesDue("tltltltltl", "3 4 3 4, 8 4 3 4, 3 9 3 4, 8 9 3 4", x -> x.second(0, T, 8) + x.second(0, L, 9));
        // The first two open ones are the last two letters.
        codesDue("aaaaaaaatl", "3 4, 8 4, 3 9, 8 9", x -> x.second(0, T, 8) + x.second(0, L, 9));
    }

    private static void waysByNumber() {
        Sentence.of("the way k, 0 to 3, takes the second class of the first open letter if k is odd, and that of the second "
            + "open letter if k is 2 or 3.");
        Index x = withEar("tl");
        x.second(0, T, 8);
        x.second(0, L, 9);
        String[] ways = {"code 3 4", "code 8 4", "code 3 9", "code 8 9"};
        for (int way = 0; way < 4; way++) Check.due("way " + way, Check.codeOf(x, 0, 0, way), ways[way]);
        Check.due("way 4", x.code(0, 0, 4, 5), Check.NO_SUCH);
        Check.due("way -1", x.code(0, 0, -1, 5), Check.NO_SUCH);
        Index one = withEar("atl");
        one.second(0, L, 9);
        codesDue(one, 0, "3 4, 3 9");
    }

    private static void codesOnce() {
        Sentence.of("The codes of a name are those of the ways 0 to 3, each unlike one once, in this order.");
        codesDue("bab", "1 1, 1, -", x -> x.second(0, B, 0));
        codesDue("bc", "1, 2 1, 1 2, 2", x -> x.second(0, B, 2) + x.hear(0, C, 1) + x.second(0, C, 2));
        codesDue("bb", "1, 8 1, 1 8, 8", x -> x.second(0, B, 8));
        // The ways 2 and 3, which are unlike 0 and 1 beyond the greatest length, tell nothing new.
        codesDue("tl", "3, 8", x -> x.set(LENGTH, 1) + x.second(0, T, 8) + x.second(0, L, 9));
        codesDue("rtl", "6", x -> x.set(LENGTH, 1) + x.second(0, T, 8) + x.second(0, L, 9));
        codesDue("rtl", "6 3, 6 8", x -> x.set(LENGTH, 2) + x.second(0, T, 8) + x.second(0, L, 9));
        // The way 1 tells nothing new, but the way 2 does.
        codesDue("bfl", "1 4, 1 9", x -> x.second(0, F, 0) + x.second(0, L, 9));
        codesDue("ba", "1, -", x -> x.second(0, B, 0));
        Index x = withEar("tl");
        x.set(LENGTH, 1);
        x.second(0, T, 8);
        x.second(0, L, 9);
        Check.due("names in two drawers", x.ofEar(0, 4), 1);
        Check.due("drawers", x.ofEar(0, 2), 2);
        x.second(0, T, Check.NONE);
        Check.due("names in two drawers", x.ofEar(0, 4), 0);
        Check.due("drawers", x.ofEar(0, 2), 1);
    }

    private static void drawers() {
        Sentence.of("A drawer of an ear has all names that have its code among their codes.");
        Index x = withEar("cam", "lam", "tam", "cal", "ctm");
        Check.due("drawers", Check.drawers(x, 0, 0), "0, 1, 2, 3, 4");
        x.second(0, C, 3);
        // 2 5, 3 5; 4 5; 3 5; 2 4, 3 4; 2 3 5, 3 5
        Check.due("drawers", Check.drawers(x, 0, 0), "0, 0 2 4, 1, 3, 3, 4");
        x.second(0, T, 2);
        // 2 5, 3 5; 4 5; 3 5, 2 5; 2 4, 3 4; 2 3 5, 3 5, 2 5, 3 2 5
        Check.due("drawers", Check.drawers(x, 0, 0), "0 2 4, 0 2 4, 1, 3, 3, 4, 4");
        x.ear(Check.NONE);
        Check.due("drawers of another ear", Check.drawers(x, 1, 0), "0, 1, 2, 3, 4");
        x.set(LENGTH, 1);
        Check.due("drawers of short codes", Check.drawers(x, 0, 0), "0 2 3 4, 0 2 3 4, 1");
        Index none = withEar();
        Check.due("drawers without names", Check.drawers(none, 0, 0), "");
        Index silent = withEar("a", "e", "b", "hey");
        Check.due("the drawer of the code without numbers", Check.drawers(silent, 0, 0), "0 1 3, 2");
    }

    private static void orderOfDrawers() {
        Sentence.of("Drawers are in the order in which their codes come first when the codes of all names, by numbers, are "
            + "gone through.");
        Index x = withEar("ra", "ta", "ba", "raa", "la");
        Check.due("drawers", Check.drawers(x, 0, 0), "0 3, 1, 2, 4");
        x.second(0, R, 1);
        // 6, 1; 3; 1; 6, 1; 4
        Check.due("drawers", Check.drawers(x, 0, 0), "0 3, 0 2 3, 1, 4");
        int[] first = {0, 2, 1, 0, 3};
        for (int name = 0; name < 5; name++) {
            Check.due("code(0, " + name + ", 0, 6)", x.code(0, name, 0, 6), first[name]);
        }
        Check.due("code(0, 0, 1, 6)", x.code(0, 0, 1, 6), 1);
        Check.due("code(0, 3, 1, 6)", x.code(0, 3, 1, 6), 1);
        x.drop(0);
        // 3; 1; 6, 1; 4
        Check.due("drawers", Check.drawers(x, 0, 0), "0, 1 2, 2, 3");
        Check.addName(x, "ra");
        Check.due("drawers", Check.drawers(x, 0, 0), "0, 1 2 4, 2 4, 3");
        Index ways = withEar("tl");
        ways.second(0, T, 8);
        ways.second(0, L, 9);
        for (int way = 0; way < 4; way++) Check.due("drawer of way " + way, ways.code(0, 0, way, 6), way);
    }

    private static void alike() {
        Sentence.of("An ear hears two names alike if they have a code in common.");
        Index x = withEar("ca", "ga", "ta", "sa", "a", "hey");
        x.second(0, C, 3);
        x.hear(0, G, 8);
        x.second(0, G, 3);
        // 2, 3; 8, 3; 3; 2; -; -
        String[] alike = {"0 1 2 3", "0 1 2", "0 1 2", "0 3", "4 5", "4 5"};
        for (int one = 0; one < 6; one++) {
            int set = 0;
            for (int other = 0; other < 6; other++) set |= x.alike(0, one, other) << other;
            Check.due("names like " + one, Check.numbers(set), alike[one]);
        }
        Check.due("pairs", x.ofEar(0, 5), 5);
        Index two = withEar("tl", "lt");
        two.second(0, T, 4);
        two.second(0, L, 3);
        // 3 4, 4, 3, 4 3; 4 3, 3, 4, 3 4: four codes in common are one pair
        Check.due("pairs", two.ofEar(0, 5), 1);
        Check.due("alike(0, 0, 1)", two.alike(0, 0, 1), 1);
    }

    private static void heardDue(Index x, int letter, int kind, int second) {
        String sign = "" + (char) ('a' + letter);
        Check.due("class of " + sign, x.of(0, letter, 0), kind);
        Check.due("second class of " + sign, x.of(0, letter, 1), second);
    }

    private static void merging() {
        Sentence.of("To merge a class b into a class a: all letters with the class b get the class a (second classes too).");
        Index x = withEar("trl");
        x.second(0, B, 6);
        x.second(0, S, 3);
        x.second(0, M, 8);
        x.second(0, R, 4);
        x.merge(0, 3, 6);
        heardDue(x, R, 3, 4);
        heardDue(x, T, 3, Check.NONE);
        heardDue(x, B, 1, 3);
        heardDue(x, S, 2, 3);
        heardDue(x, M, 5, 8);
        heardDue(x, L, 4, Check.NONE);
        codesDue(x, 0, "3 4");
        Check.due("letters like t", x.of(0, T, 2), Check.letters("dtr"));
        x.merge(0, 0, 5);
        heardDue(x, M, 0, 8);
        Check.due("silent letters", x.ofEar(0, 7), Check.letters("aehiouwymn"));
        x.merge(0, 9, 0);
        heardDue(x, M, 9, 8);
        heardDue(x, H, 9, Check.NONE);
        Check.due("silent letters", x.ofEar(0, 7), 0);
        x.merge(0, 5, 7);
        Check.due("of a class without letters", x.ofEar(0, 6), Check.letters("bsmr"));
        x.second(0, G, 0);
        x.merge(0, 7, 0);
        heardDue(x, G, 2, 7);
        x.merge(0, 0, 7);
        heardDue(x, G, 2, 0);
        x.ear(Check.NONE);
        Check.due("the class of another ear", x.of(1, R, 0), 6);
    }

    /** The class of l, and the second one of b, behind so many mergers: 4, and then 7 and 8 in turn. */
    private static int classBehind(int mergers) {
        return mergers == 0 ? 4 : 8 - mergers % 2;
    }

    private static void sixMergers() {
        Sentence.of("The ear remembers its mergers, up to 6; when one more comes, the oldest one is forgotten.");
        for (int many = 0; many <= 9; many++) {
            Index x = withEar();
            x.second(0, B, 4);
            for (int i = 0; i < many; i++) {
                x.merge(0, classBehind(i + 1), classBehind(i));
                Check.due("mergers", x.ofEar(0, 1), Math.min(6, i + 1));
            }
            heardDue(x, L, classBehind(many), Check.NONE);
            int remembered = Math.min(6, many);
            for (int i = many - 1; i >= many - remembered; i--) {
                Check.due("split to " + i + " of " + many, x.split(0), classBehind(i));
                heardDue(x, L, classBehind(i), Check.NONE);
                heardDue(x, B, 1, classBehind(i));
                Check.due("mergers", x.ofEar(0, 1), i - many + remembered);
            }
            Check.due("split of one more than " + remembered, x.split(0), Check.NOT_POSSIBLE);
        }
        sixMergersOfOtherLetters();
        Index two = withEar();
        two.ear(Check.NONE);
        for (int i = 0; i < 7; i++) two.merge(0, i + 1, i);
        two.merge(1, 1, 2);
        Check.due("mergers of an ear", two.ofEar(0, 1), 6);
        Check.due("mergers of another ear", two.ofEar(1, 1), 1);
        two.split(1);
        Check.due("mergers of an ear", two.ofEar(0, 1), 6);
    }

    /** Each merger has letters, and second classes, of its own: those of the two oldest ones stay where they came. */
    private static void sixMergersOfOtherLetters() {
        Index x = withEar();
        for (int letter = 0; letter < 26; letter++) x.hear(0, letter, 0);
        for (int i = 0; i < 8; i++) {
            x.hear(0, i, 1 + i);
            x.second(0, 8 + i, 1 + i);
        }
        for (int i = 0; i < 8; i++) x.merge(0, 9, 1 + i);
        for (int i = 7; i >= 2; i--) {
            Check.due("split(0)", x.split(0), 1 + i);
            for (int j = 0; j < 8; j++) {
                heardDue(x, j, j < i ? 9 : 1 + j, Check.NONE);
                heardDue(x, 8 + j, 0, j < i ? 9 : 1 + j);
            }
        }
        Check.due("split(0) of a forgotten one", x.split(0), Check.NOT_POSSIBLE);
    }

    private static void splitting() {
        Sentence.of("To split is to take the latest merger back: letters whose class (second class) became a by it, and is a "
            + "now, get b again (a second class that is gone by it did not become a).");
        Index x = withEar();
        x.merge(0, 1, 2);
        x.merge(0, 3, 6);
        x.hear(0, D, 6);
        x.hear(0, B, 3);
        x.split(0);
        heardDue(x, R, 6, Check.NONE);
        heardDue(x, T, 3, Check.NONE);
        heardDue(x, D, 6, Check.NONE);
        heardDue(x, B, 3, Check.NONE);
        heardDue(x, C, 1, Check.NONE);
        x.hear(0, C, 9);
        x.split(0);
        heardDue(x, C, 9, Check.NONE);
        heardDue(x, S, 2, Check.NONE);
        heardDue(x, F, 1, Check.NONE);
        // The latest one is taken back first: what two mergers moved comes back step by step.
        Index y = withEar();
        y.merge(0, 3, 6);
        y.merge(0, 1, 3);
        heardDue(y, R, 1, Check.NONE);
        y.split(0);
        heardDue(y, R, 3, Check.NONE);
        heardDue(y, T, 3, Check.NONE);
        heardDue(y, B, 1, Check.NONE);
        y.split(0);
        heardDue(y, R, 6, Check.NONE);
        heardDue(y, T, 3, Check.NONE);
        // A letter that is of the class now, though it was not in between.
        Index z = withEar();
        z.merge(0, 3, 6);
        z.hear(0, R, 9);
        z.hear(0, R, 3);
        z.split(0);
        heardDue(z, R, 6, Check.NONE);
    }

    /** Of all letters each one alone, or each one but that one, comes by the merger. */
    private static void splittingEachLetter() {
        for (int alone = 0; alone < 26; alone++) {
            for (int many = 0; many < 2; many++) {
                Index x = withEar();
                for (int letter = 0; letter < 26; letter++) {
                    x.hear(0, letter, letter == alone ^ many == 1 ? 8 : 9);
                }
                x.merge(0, 9, 8);
                x.split(0);
                for (int letter = 0; letter < 26; letter++) {
                    heardDue(x, letter, letter == alone ^ many == 1 ? 8 : 9, Check.NONE);
                }
                for (int letter = 0; letter < 26; letter++) {
                    x.hear(0, letter, 0);
                    x.second(0, letter, letter == alone ^ many == 1 ? 8 : 9);
                }
                x.merge(0, 9, 8);
                x.split(0);
                for (int letter = 0; letter < 26; letter++) {
                    heardDue(x, letter, 0, letter == alone ^ many == 1 ? 8 : 9);
                }
            }
        }
    }

    private static void splittingSeconds() {
        Index x = withEar();
        x.second(0, B, 6);
        x.second(0, C, 3);
        x.second(0, F, 6);
        x.second(0, G, 6);
        x.second(0, T, 6);
        x.second(0, R, 3);
        x.merge(0, 3, 6);
        x.second(0, F, 9);
        x.second(0, G, Check.NONE);
        x.second(0, S, 3);
        heardDue(x, T, 3, Check.NONE);
        heardDue(x, R, 3, Check.NONE);
        x.split(0);
        heardDue(x, B, 1, 6);
        heardDue(x, C, 2, 3);
        heardDue(x, F, 1, 9);
        heardDue(x, G, 2, Check.NONE);
        heardDue(x, S, 2, 3);
        heardDue(x, T, 3, Check.NONE);
        heardDue(x, R, 6, Check.NONE);
        // Second classes that were gone by the merger did not become the class, even if they are it now.
        Index y = withEar();
        y.second(0, L, 5);
        y.second(0, M, 4);
        y.merge(0, 4, 5);
        y.hear(0, L, 1);
        y.hear(0, M, 1);
        y.second(0, L, 4);
        y.second(0, M, 4);
        y.split(0);
        heardDue(y, L, 1, 4);
        heardDue(y, M, 1, 4);
    }
}
