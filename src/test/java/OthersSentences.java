import java.util.function.Supplier;

/** Promises 20 to 29, sentence by sentence. */
final class OthersSentences {
    private static final int LENGTH = ConsonantIndex.LENGTH, NAMES = ConsonantIndex.NAMES;
    private static final int B = 1, C = 2, D = 3, H = 7, L = 11, M = 12, R = 17, S = 18, T = 19;
    private static final int[] NO_EARS_OF_TWO = {-1, 2, 3, 4, -6, -2, 256, 1 << 16, Integer.MIN_VALUE, Integer.MAX_VALUE};

    private OthersSentences() { }

    static void run() {
        ifMerged();
        ifMergedErrors();
        bestMerger();
        bestMergerErrors();
        quarrel();
        deafest();
        put();
        putErrors();
        wipe();
        fault();
        undo();
        history();
        save();
        saveErrors();
        restore();
        restoreErrors();
    }

    private static Index withEar(String... names) {
        Index x = Check.withNames(names);
        x.ear(Check.NONE);
        return x;
    }

    private static Index withTwoEars(String... names) {
        Index x = withEar(names);
        x.ear(Check.NONE);
        return x;
    }

    private static void ifMerged() {
        Sentence.under("Promise 20: ifMerged");
        Sentence.of("Tells what merging a class of an ear into another one would bring.");
        Supplier<Index> made = () -> withTwoEars("ra", "ta", "la", "ma", "ram");
        Sentence.changesNothing(made, "ifMerged(0, 3, 6, 0)", y -> y.ifMerged(0, 3, 6, 0), 4);
        Sentence.changesNothing(made, "ifMerged(0, 3, 6, 1)", y -> y.ifMerged(0, 3, 6, 1), 1);
        Index x = made.get();
        for (int i = 0; i < 7; i++) x.ifMerged(1, 1, 2, 0);
        Check.due("mergers", x.ofEar(1, 1), 0);
        for (String name : new String[] {"tas", "lala", "pha", "mas", "thar"}) Check.addName(x, name);
        x.hear(1, L, 9);
        x.hear(1, H, 7);
        x.second(1, M, 9);
        x.second(1, R, 3);
        x.habits(1, 3);
        x.merge(1, 8, 6);
        // What is foretold is what the merger brings, for each two classes.
        for (int into = 0; into <= 9; into++) {
            for (int from = 0; from <= 9; from++) {
                if (into == from) continue;
                int drawers = x.ifMerged(1, into, from, 0);
                int pairs = x.ifMerged(1, into, from, 1);
                x.merge(1, into, from);
                Check.due("drawers behind merge(1, " + into + ", " + from + ")", x.ofEar(1, 2), drawers);
                Check.due("pairs behind merge(1, " + into + ", " + from + ")", x.ofEar(1, 5), pairs);
                x.undo();
            }
        }
        Sentence.of("what: 0 drawers then, 1 pairs of names that are heard alike then");
        Index z = withEar("ra", "ta", "la", "da", "ram");
        Check.due("drawers", z.ofEar(0, 2), 4);
        Check.due("pairs", z.ofEar(0, 5), 1);
        Check.due("ifMerged(0, 3, 6, 0)", z.ifMerged(0, 3, 6, 0), 3);
        Check.due("ifMerged(0, 3, 6, 1)", z.ifMerged(0, 3, 6, 1), 3);
        Check.due("ifMerged(0, 6, 3, 1)", z.ifMerged(0, 6, 3, 1), 3);
        Check.due("ifMerged(0, 0, 6, 0)", z.ifMerged(0, 0, 6, 0), 4);
        Check.due("ifMerged(0, 0, 6, 1)", z.ifMerged(0, 0, 6, 1), 1);
        Check.due("ifMerged(0, 6, 0, 0) of silent letters", z.ifMerged(0, 6, 0, 0), 4);
        Check.due("ifMerged(0, 9, 8, 0) without letters", z.ifMerged(0, 9, 8, 0), 4);
        Check.due("ifMerged(0, 9, 8, 1) without letters", z.ifMerged(0, 9, 8, 1), 1);
        z.second(0, R, 3);
        // 6 or 3; 3; 4; 3; 6 5 or 3 5: behind 3 into 6 the r has the class 6 alone
        Check.due("ifMerged(0, 6, 3, 0)", z.ifMerged(0, 6, 3, 0), 3);
        Check.due("without names", withEar().ifMerged(0, 1, 2, 0), 0);
        Check.due("without names", withEar().ifMerged(0, 1, 2, 1), 0);
        Sentence.of("Returns the number;");
        Check.due("ifMerged(0, 4, 3, 1)", z.ifMerged(0, 4, 3, 1), 6);
    }

    private static void ifMergedErrors() {
        Index x = withTwoEars("ra", "ta");
        Sentence.of("NO_SUCH if there is no such ear;");
        Check.dueForAll("ear", NO_EARS_OF_TWO, n -> x.ifMerged(n, 1, 2, 0), Check.NO_SUCH);
        Check.dueForAll("ear, and all else wrong", NO_EARS_OF_TWO, n -> x.ifMerged(n, 10, 10, 2), Check.NO_SUCH);
        Check.due("without ears", new Index().ifMerged(0, 1, 2, 0), Check.NO_SUCH);
        Sentence.of("BAD_VALUE if an argument is out of range, or both classes are the same.");
        for (int what = 0; what < 2; what++) {
            int asked = what;
            Check.dueForAll("into", Check.outside(0, 9), n -> x.ifMerged(0, n, 1, asked), Check.BAD_VALUE);
            Check.dueForAll("from", Check.outside(0, 9), n -> x.ifMerged(0, 1, n, asked), Check.BAD_VALUE);
            Check.dueForAll("both", Check.outside(0, 9), n -> x.ifMerged(0, n, n, asked), Check.BAD_VALUE);
            Check.dueForAll("both", new int[] {0, 1, 2, 3, 4, 5, 6, 7, 8, 9}, n -> x.ifMerged(0, n, n, asked), Check.BAD_VALUE);
        }
        Check.dueForAll("what", Check.outside(0, 1), n -> x.ifMerged(0, 1, 2, n), Check.BAD_VALUE);
        Check.due("into 0, from 9", x.ifMerged(0, 0, 9, 0), 2);
        Check.due("into 9, from 0", x.ifMerged(0, 9, 0, 0), 2);
    }

    private static void bestDue(Index x, int lower, int higher, int pairs) {
        Check.due("bestMerger(0, 0)", x.bestMerger(0, 0), lower);
        Check.due("bestMerger(0, 1)", x.bestMerger(0, 1), higher);
        Check.due("bestMerger(0, 2)", x.bestMerger(0, 2), pairs);
    }

    private static void bestMerger() {
        Sentence.under("Promise 21: bestMerger");
        Sentence.of("Finds the two classes of an ear, both above 0 and with letters by their class, whose merger, the higher "
            + "one into the lower one, leaves the fewest pairs of names that are heard alike, of several those with the "
            + "lowest lower one, then the lowest higher one.");
        Sentence.changesNothing(() -> withEar("ra", "ta"), "bestMerger(0, 1)", y -> y.bestMerger(0, 1), 2);
        bestDue(withEar(), 1, 2, 0);
        // ba 1, ca 2, da 3, la 4, ma 5, ra 6: each merger makes one pair.
        Index x = withEar("ba", "ca", "da", "la", "ma", "ra");
        bestDue(x, 1, 2, 1);
        Check.addName(x, "bba");
        bestDue(x, 2, 3, 2);
        Check.addName(x, "cca");
        bestDue(x, 3, 4, 3);
        Check.addName(x, "dda");
        bestDue(x, 4, 5, 4);
        Check.addName(x, "lla");
        bestDue(x, 5, 6, 5);
        x.drop(5);
        // No name has the class 6: merging it makes no pair, and the lowest lower one of those is 1.
        bestDue(x, 1, 6, 4);
        // Of those with the lowest lower one that with the lowest higher one.
        Index y = withEar("ba", "ca", "da", "ma");
        bestDue(y, 1, 4, 0);
        y.hear(0, L, 8);
        bestDue(y, 1, 6, 0);
        y.hear(0, R, 9);
        bestDue(y, 1, 8, 0);
        y.hear(0, L, 9);
        bestDue(y, 1, 9, 0);
        y.hear(0, L, 0);
        y.hear(0, R, 0);
        bestDue(y, 1, 2, 1);
        // Classes that are second ones alone, or silent, do not count.
        y.second(0, 0, 4);
        bestDue(y, 1, 2, 1);
        // Only two classes are left, and one that is silent.
        Index z = withEar("ra", "la");
        for (int kind : new int[] {1, 2, 3, 5}) z.merge(0, 0, kind);
        bestDue(z, 4, 6, 1);
        z.second(0, R, 4);
        z.second(0, L, 7);
        // 6 or 4, 4 or 7: merged they are 4, 4 or 7
        bestDue(z, 4, 6, 1);
        Check.due("mergers", z.ofEar(0, 1), 4);
        z.hear(0, L, 0);
        z.hear(0, R, 9);
        z.hear(0, M, 8);
        bestDue(z, 8, 9, 0);
        Sentence.of("what: 0 the lower one, 1 the higher one, 2 the pairs then");
        Index w = withEar("ba", "ca", "da", "la", "ma", "ra", "cca", "pa", "dda", "lla");
        bestDue(w, 5, 6, 5);
        Sentence.of("Returns the number;");
        Check.due("bestMerger(0, 2)", w.bestMerger(0, 2), 5);
    }

    private static void bestMergerErrors() {
        Index x = withTwoEars("ra", "ta");
        Sentence.of("NO_SUCH if there is no such ear;");
        for (int what = 0; what < 3; what++) {
            int asked = what;
            Check.dueForAll("ear", NO_EARS_OF_TWO, n -> x.bestMerger(n, asked), Check.NO_SUCH);
        }
        Check.due("without ears", new Index().bestMerger(0, 0), Check.NO_SUCH);
        Sentence.of("BAD_VALUE if what is out of range;");
        Check.dueForAll("what", Check.outside(0, 2), n -> x.bestMerger(0, n), Check.BAD_VALUE);
        Sentence.of("NONE if there are no two such classes.");
        for (int kind = 2; kind <= 6; kind++) x.merge(0, 1, kind);
        bestDue(x, Check.NONE, Check.NONE, Check.NONE);
        Check.dueForAll("what", Check.outside(0, 2), n -> x.bestMerger(0, n), Check.BAD_VALUE);
        x.second(0, T, 9);
        bestDue(x, Check.NONE, Check.NONE, Check.NONE);
        x.merge(0, 0, 1);
        bestDue(x, Check.NONE, Check.NONE, Check.NONE);
        x.hear(0, T, 9);
        bestDue(x, Check.NONE, Check.NONE, Check.NONE);
        x.hear(0, S, 1);
        bestDue(x, 1, 9, 0);
        Check.due("the other ear", x.bestMerger(1, 0), 1);
    }

    private static void quarrel() {
        Sentence.under("Promise 22: quarrel");
        Sentence.of("Tells over how many pairs of names two ears quarrel: pairs that the first one hears alike, and the other "
            + "one does not.");
        Index x = withTwoEars("ta", "da", "ra", "la", "ba", "pa");
        Check.due("ears that are the same", x.quarrel(0, 1), 0);
        x.merge(1, 3, 6);
        x.hear(1, D, 9);
        x.hear(1, L, 3);
        // 3 3 6 4 1 1; 3 9 3 3 1 1
        Check.due("quarrel(0, 1)", x.quarrel(0, 1), 1);
        Check.due("quarrel(1, 0)", x.quarrel(1, 0), 3);
        Check.due("an ear with itself", x.quarrel(0, 0), 0);
        Check.due("an ear with itself", x.quarrel(1, 1), 0);
        Sentence.changesNothing(() -> withTwoEars("ta", "da"), "quarrel(0, 1)", y -> y.quarrel(0, 1), 0);
        x.second(1, B, 3);
        // 3 3 6 4 1 1; 3 9 3 3 1-or-3 1: ba is alike with ta, ra and la, too
        Check.due("quarrel(0, 1)", x.quarrel(0, 1), 1);
        Check.due("quarrel(1, 0)", x.quarrel(1, 0), 6);
        Sentence.of("Returns how many;");
        Index full = withTwoEars();
        for (int i = 0; i < 24; i++) Check.addName(full, "tdlr".charAt(i / 6) + "" + "aeiouy".charAt(i % 6));
        full.merge(1, 0, 3);
        full.merge(1, 0, 4);
        full.merge(1, 0, 6);
        Check.due("quarrel(1, 0)", full.quarrel(1, 0), 24 * 23 / 2 - 12 * 11 / 2 - 6 * 5 / 2 - 6 * 5 / 2);
        Check.due("quarrel(0, 1)", full.quarrel(0, 1), 0);
        Check.due("without names", withTwoEars().quarrel(0, 1), 0);
        Sentence.of("NO_SUCH if there is no such ear.");
        Check.dueForAll("ear", NO_EARS_OF_TWO, n -> x.quarrel(n, 0), Check.NO_SUCH);
        Check.dueForAll("other", NO_EARS_OF_TWO, n -> x.quarrel(0, n), Check.NO_SUCH);
        Check.dueForAll("both", NO_EARS_OF_TWO, n -> x.quarrel(n, n), Check.NO_SUCH);
        Check.due("without ears", new Index().quarrel(0, 0), Check.NO_SUCH);
    }

    private static void deafest() {
        Sentence.under("Promise 23: deafest");
        Sentence.of("Finds the ear that hears the most pairs of names alike, of several the lowest one.");
        Index x = withTwoEars("ta", "ra", "la", "ba");
        x.ear(Check.NONE);
        x.ear(Check.NONE);
        Check.due("all of them hear none", x.deafest(), 0);
        x.merge(3, 3, 6);
        Check.due("the last one hears one", x.deafest(), 3);
        x.merge(1, 3, 6);
        Check.due("two of them hear one", x.deafest(), 1);
        x.merge(2, 3, 6);
        x.merge(2, 3, 4);
        Check.due("the third one hears three", x.deafest(), 2);
        x.merge(0, 3, 6);
        Check.due("the first one hears one", x.deafest(), 2);
        x.merge(0, 3, 1);
        Check.due("the first one hears three, too", x.deafest(), 0);
        x.merge(3, 3, 1);
        x.merge(3, 3, 4);
        Check.due("the last one hears six", x.deafest(), 3);
        Sentence.changesNothing(() -> withTwoEars("ta", "da"), "deafest()", y -> y.deafest(), 0);
        // One pair that shares two drawers is one pair: not more than one pair of another ear.
        Index y = withTwoEars("ta", "da");
        y.second(1, T, 7);
        y.second(1, D, 7);
        Check.due("a pair with two codes in common", y.deafest(), 0);
        Sentence.of("Returns the ear;");
        Check.due("without names", withTwoEars().deafest(), 0);
        Sentence.of("NONE without ears.");
        Check.due("without ears", new Index().deafest(), Check.NONE);
        Check.due("without ears", Check.withNames("ta", "da").deafest(), Check.NONE);
        Index undone = withEar("ta");
        undone.undo();
        Check.due("without ears behind undo()", undone.deafest(), Check.NONE);
    }

    private static void put() {
        Sentence.under("Promise 24: put");
        Sentence.of("Appends characters to the pad.");
        Index x = new Index();
        x.put('x');
        x.put('y');
        x.put(Check.characters("ab"));
        x.add();
        Check.due("the name", Check.nameAt(x, 0), "xyab");
        Check.due("put() is no change", x.count(5), 1);
        Sentence.of("They are given as a number: its lowest 8 bits are the last character, the next 8 bits the one before, and "
            + "so on; 8 bits that are 0 mean that there are no more characters, and everything above them has to be 0, too.");
        x.put(0x6162636465666768L);
        Check.due("eight characters", x.count(4), 8);
        x.put(0x696AL);
        x.add();
        Check.due("the name", Check.nameAt(x, 1), "abcdefghij");
        for (int size = 1; size <= 8; size++) {
            String text = "hgfedcba".substring(0, size);
            x.put(Check.characters(text));
            x.add();
            Check.due("a name of " + size, Check.nameAt(x, size + 1), text);
        }
        Sentence.of("characters: 1 to 8 characters");
        Index y = new Index();
        int length = 0;
        for (int size = 1; size <= 8; size++) {
            length += size;
            Check.due("put of " + size, y.put(0x7E7E7E7E7E7E7E7EL >>> 8 * (8 - size)), length);
        }
        Sentence.of("Returns the length of the pad then;");
        Check.due("put(a)", y.put('a'), 37);
        Check.due("count(4)", y.count(4), 37);
        y.wipe();
        Check.due("put(a)", y.put('a'), 1);
    }

    /** On a new object: the answer, and the length of the pad behind it. */
    private static void putDue(String told, long characters, int want) {
        Index x = new Index();
        Check.due(told, x.put(characters), want);
        Check.due("the pad behind " + told, x.count(4), Math.max(want, 0));
    }

    private static void putErrors() {
        Sentence.of("BAD_VALUE if there is no character, a code is not 33 to 126, or a bit above 8 bits that are 0 is not 0;");
        putDue("no character", 0, Check.BAD_VALUE);
        for (int place = 0; place < 8; place++) {
            long others = 0x6161616161616161L >>> 8 * (7 - place) & ~(255L << 8 * place);
            for (int code = 1; code < 256; code++) {
                int due = code >= 33 && code <= 126 ? place + 1 : Check.BAD_VALUE;
                putDue("code " + code + " as the first one of " + (place + 1), (long) code << 8 * place | others, due);
                if (place == 7) continue;
                // As the last one, with characters ahead of it.
                long ahead = 0x6161616161616161L & ~255L << 8 * place & ~((1L << 8 * place) - 1);
                long behind = 0x6161616161616161L & (1L << 8 * place) - 1;
                due = code >= 33 && code <= 126 ? 8 : Check.BAD_VALUE;
                putDue("code " + code + " in between", ahead | behind | (long) code << 8 * place, due);
            }
            if (place == 0) continue;
            for (int bit = 8 * place; bit < 64; bit++) {
                long below = 0x6161616161616161L & (1L << 8 * (place - 1)) - 1;
                putDue("bit " + bit + " above 8 bits that are 0", 1L << bit | below, Check.BAD_VALUE);
            }
        }
        putDue("a character above 8 bits that are 0", 0x610061L, Check.BAD_VALUE);
        putDue("a character above 8 bits that are 0", 0x6100L, Check.BAD_VALUE);
        putDue("the highest bit", Long.MIN_VALUE, Check.BAD_VALUE);
        putDue("all bits", -1, Check.BAD_VALUE);
        Sentence.of("TOO_MANY if the pad would be longer than 80.");
        for (int size = 1; size <= 8; size++) {
            for (int length = 72; length <= 80; length++) {
                Index y = new Index();
                for (int i = 0; i < length; i++) y.put('b');
                int due = length + size <= 80 ? length + size : Check.TOO_MANY;
                long text = 0x6161616161616161L >>> 8 * (8 - size);
                Check.due("put of " + size + " behind " + length, y.put(text), due);
                Check.due("the pad", y.count(4), due > 0 ? due : length);
            }
        }
    }

    private static void wipe() {
        Sentence.under("Promise 25: wipe");
        Sentence.of("Empties the pad, and returns the length that it had.");
        Index x = Check.withNames("ta");
        Check.due("wipe() of nothing", x.wipe(), 0);
        for (int length : new int[] {1, 2, 10, 11, 79, 80}) {
            for (int i = 0; i < length; i++) x.put('~');
            Check.due("wipe()", x.wipe(), length);
            Check.due("count(4)", x.count(4), 0);
            Check.due("fault()", x.fault(), 0);
            Check.due("wipe() again", x.wipe(), 0);
        }
        Check.due("wipe() is no change", x.count(5), 1);
        x.put('a');
        x.add();
        Check.due("nothing is left of what was wiped", Check.nameAt(x, 1), "a");
    }

    private static void fault() {
        Sentence.under("Promise 26: fault");
        Sentence.of("Returns the fault of the pad, NONE if there is none.");
        Index x = new Index();
        Check.due("of nothing", x.fault(), 0);
        for (int i = 0; i < 10; i++) {
            x.put('a' + i);
            Check.due("of " + (i + 1), x.fault(), Check.NONE);
        }
        x.put('k');
        Check.due("of 11", x.fault(), 10);
        Check.due("the pad stays", x.count(4), 11);
        Sentence.changesNothing(() -> {
            Index y = withEar("ta");
            Check.type(y, "ta!");
            return y;
        }, "fault()", y -> y.fault(), 2);
    }

    private static void undo() {
        Sentence.under("Promise 27: undo");
        Sentence.of("Undoes the latest change: everything except the pad, the slots and the history is as it was before it.");
        Sentence.Call[] changes = {
            x -> x.set(LENGTH, 1), x -> x.set(NAMES, 3), x -> Check.addName(x, "new"), x -> x.drop(0), x -> x.ear(0),
            x -> x.ear(Check.NONE), x -> x.hear(0, T, 9), x -> x.hear(1, T, 7), x -> x.second(0, T, Check.NONE),
            x -> x.second(1, T, 5), x -> x.habits(0, 6), x -> x.merge(0, 3, 4), x -> x.split(0), x -> x.restore(0)
        };
        for (int i = 0; i < changes.length; i++) {
            Index x = withTwoEars("ta", "los");
            x.save(0);
            x.second(0, T, 7);
            x.habits(0, 1);
            x.merge(0, 1, 2);
            Check.type(x, "pad");
            String before = Check.pictureWithoutPad(x);
            changes[i].on(x);
            x.wipe();
            Check.type(x, "after");
            x.save(1);
            Check.due("differs behind change " + i, Check.pictureWithoutPad(x).equals(before) ? 1 : 0, 0);
            String after = Check.pictureWithoutPad(x);
            x.undo();
            Check.due("undo of change " + i, Check.pictureWithoutPad(x), before);
            Check.due("the pad stays", x.count(4), 5);
            x.restore(1);
            Check.due("the slots stay", Check.pictureWithoutPad(x), after);
            x.undo();
            Check.due("split behind undo", x.split(0), 2);
            Check.due("split behind undo", x.split(0), Check.NOT_POSSIBLE);
        }
        undoOfMergers();
        Index x = new Index();
        Check.type(x, "ta");
        x.add();
        x.undo();
        Check.due("add() is undone", x.count(0), 0);
        Check.due("the pad stays as add() left it", x.count(4), 0);
    }

    /** An ear whose two mergers have letters and second classes of their own. */
    private static Index withMergers() {
        Index x = withEar();
        x.second(0, 0, 6);
        x.second(0, S, 9);
        x.merge(0, 3, 6);
        x.merge(0, 8, 9);
        return x;
    }

    /** Takes the mergers back, and makes other ones in their place. */
    private static void mergeOthers(Index x) {
        x.split(0);
        x.split(0);
        x.merge(0, 1, 4);
        x.merge(0, 5, 2);
    }

    private static void mergersDue(Index x) {
        Check.due("mergers", x.ofEar(0, 1), 2);
        Check.due("second class of s", x.of(0, S, 1), 8);
        Check.due("second class of a", x.of(0, 0, 1), 3);
        Check.due("class of r", x.of(0, R, 0), 3);
        Check.due("split(0)", x.split(0), 9);
        Check.due("second class of s", x.of(0, S, 1), 9);
        Check.due("second class of a", x.of(0, 0, 1), 3);
        Check.due("split(0)", x.split(0), 6);
        Check.due("second class of a", x.of(0, 0, 1), 6);
        Check.due("class of r", x.of(0, R, 0), 6);
        Check.due("class of t", x.of(0, T, 0), 3);
        Check.due("class of l", x.of(0, L, 0), 4);
        Check.due("class of c", x.of(0, C, 0), 2);
        Check.due("split(0)", x.split(0), Check.NOT_POSSIBLE);
    }

    private static void undoOfMergers() {
        Index x = withMergers();
        mergeOthers(x);
        for (int i = 0; i < 4; i++) x.undo();
        mergersDue(x);
    }

    private static void history() {
        Sentence.of("A history of at most 6 states is kept: each method that is a change, and returns no error, records the "
            + "state before it (also if nothing is different then); when one more is recorded, the oldest one is dropped.");
        for (int many = 0; many <= 14; many++) {
            Index x = new Index();
            for (int i = 0; i < many; i++) {
                Check.addName(x, "n" + (char) ('a' + i));
                Check.due("count(5)", x.count(5), Math.min(6, i + 1));
            }
            int kept = Math.min(6, many);
            for (int i = 1; i <= kept; i++) {
                Check.due("undo()", x.undo(), kept - i);
                Check.due("count(5)", x.count(5), kept - i);
                Check.due("count(0)", x.count(0), many - i);
            }
            Check.due("undo() beyond", x.undo(), Check.NOT_POSSIBLE);
        }
        Index same = withTwoEars("ta");
        same.save(0);
        Sentence.Call[] nothing = {
            y -> y.set(LENGTH, 4), y -> y.set(NAMES, 24), y -> y.hear(0, T, 3), y -> y.second(0, T, Check.NONE),
            y -> y.habits(0, 0), y -> y.restore(0)
        };
        String before = Check.pictureWithoutPad(same);
        while (same.undo() > 0) continue;
        same.restore(0);
        for (int i = 0; i < nothing.length; i++) {
            nothing[i].on(same);
            Check.due("count(5) behind the same, " + i, same.count(5), Math.min(6, i + 2));
            Check.due("what there is", Check.pictureWithoutPad(same), before);
        }
        Index mixed = new Index();
        mixed.ear(Check.NONE);
        mixed.second(0, T, 9);
        Check.due("count(5) behind a change that returns NONE", mixed.count(5), 2);
        mixed.drop(0);
        mixed.put('a');
        mixed.wipe();
        mixed.save(0);
        mixed.find(0, 0, 0);
        mixed.ifMerged(0, 1, 2, 0);
        mixed.bestMerger(0, 0);
        mixed.ofEar(0, 2);
        Check.due("count(5) behind errors and what is no change", mixed.count(5), 2);
        mixed.undo();
        mixed.hear(0, T, 5);
        Check.due("count(5) behind undo() and a change", mixed.count(5), 2);
        Check.due("second class of t", mixed.of(0, T, 1), Check.NONE);
        mixed.undo();
        Check.due("class of t", mixed.of(0, T, 0), 3);
        Sentence.of("Returns how many changes can be undone then;");
        Check.due("undo()", mixed.undo(), 0);
        Sentence.of("NOT_POSSIBLE if there is none.");
        Check.due("undo()", mixed.undo(), Check.NOT_POSSIBLE);
        Check.due("undo() of a new object", new Index().undo(), Check.NOT_POSSIBLE);
    }

    /** All that a slot has to keep, with values of its own for each number. */
    private static Index state(int number) {
        Index x = withTwoEars("ta", "los", "n" + (char) ('a' + number));
        x.set(LENGTH, 1 + number);
        x.set(NAMES, 10 + number);
        x.hear(1, 0, 5 + number);
        x.second(1, T, 6 + number);
        x.second(1, L, 8);
        x.habits(1, 1 + number);
        x.merge(1, 9, 8);
        x.merge(1, number, 5 + number);
        return x;
    }

    private static void save() {
        Sentence.under("Promise 28: save");
        Sentence.of("Saves everything except the pad, the history and the slots in a slot, and overwrites what was saved there.");
        for (int slot = 0; slot < 2; slot++) {
            Index x = state(2);
            String saved = Check.pictureWithoutPad(x);
            Check.type(x, "pad");
            x.save(slot);
            Check.due("save() is no change", x.count(5), 6);
            Check.due("the pad stays", x.count(4), 3);
            Check.due("what there is", Check.pictureWithoutPad(x), saved);
            x.put('!');
            x.split(1);
            x.split(1);
            x.second(1, L, Check.NONE);
            x.habits(1, 0);
            x.hear(1, T, 0);
            x.drop(1);
            x.set(LENGTH, 5);
            x.set(NAMES, 24);
            x.ear(1);
            x.restore(slot);
            Check.due("behind restore(" + slot + ")", Check.pictureWithoutPad(x), saved);
            Check.due("the pad stays", x.count(4), 4);
            Check.due("the pad stays", x.fault(), 3);
            Check.due("the history is not restored", x.count(5), 6);
            Check.due("split of what was saved", x.split(1), 7);
            Check.due("split of what was saved", x.split(1), 8);
            Check.due("split of what was saved", x.split(1), Check.NOT_POSSIBLE);
            Check.due("the other slot", x.restore(1 - slot), Check.NOT_POSSIBLE);
        }
        savedMergers();
        Index x = withEar("ta");
        x.save(0);
        x.drop(0);
        x.save(1);
        Check.addName(x, "la");
        Check.addName(x, "ma");
        Check.due("slot 0", x.restore(0), 1);
        Check.due("its name", Check.nameAt(x, 0), "ta");
        Check.due("slot 1", x.restore(1), 0);
        Check.addName(x, "ra");
        Check.addName(x, "da");
        x.save(0);
        x.drop(0);
        Check.due("slot 0, overwritten", x.restore(0), 2);
        Check.due("its name", Check.nameAt(x, 0), "ra");
        Check.due("slot 1 as before", x.restore(1), 0);
        x.undo();
        Check.due("undo() of restore(1)", x.count(0), 2);
    }

    private static void savedMergers() {
        for (int slot = 0; slot < 2; slot++) {
            Index x = withMergers();
            x.save(slot);
            mergeOthers(x);
            x.save(1 - slot);
            x.restore(slot);
            mergersDue(x);
            x.restore(1 - slot);
            Check.due("split of the other slot", x.split(0), 2);
            x.restore(slot);
            mergersDue(x);
        }
    }

    private static void saveErrors() {
        Sentence.of("slot: 0 or 1");
        Index x = Check.withNames("ta");
        Check.due("save(0)", x.save(0), 1);
        Check.due("save(1)", x.save(1), 1);
        Sentence.of("Returns how many names there are;");
        Index y = new Index();
        for (int i = 0; i < 24; i++) {
            Check.due("save()", y.save(i % 2), i);
            Check.addName(y, "n" + (char) ('a' + i));
        }
        Check.due("save()", y.save(1), 24);
        Sentence.of("BAD_VALUE if there is no such slot.");
        Check.dueForAll("slot", Check.outside(0, 1), x::save, Check.BAD_VALUE);
        Check.due("save(NONE)", x.save(Check.NONE), Check.BAD_VALUE);
    }

    private static void restore() {
        Sentence.under("Promise 29: restore");
        Sentence.of("Restores what was saved last in a slot, which keeps it.");
        for (int slot = 0; slot < 2; slot++) {
            Index x = state(1);
            x.save(slot);
            x.merge(1, 4, 3);
            x.save(slot);
            String saved = Check.pictureWithoutPad(x);
            for (int i = 0; i < 3; i++) {
                x.drop(0);
                x.split(1);
                x.habits(1, 7);
                x.second(1, T, Check.NONE);
                Check.due("restore", x.restore(slot), 3);
                Check.due("behind restore " + i, Check.pictureWithoutPad(x), saved);
                Check.due("split behind restore " + i, x.split(1), 3);
            }
        }
        Sentence.of("This is a change.");
        Supplier<Index> saved = () -> {
            Index x = withEar("ta", "la");
            x.save(0);
            x.merge(0, 1, 2);
            x.drop(0);
            return x;
        };
        Sentence.isChange(saved, "restore(0)", x -> x.restore(0), 2);
        Index x = saved.get();
        x.restore(0);
        x.undo();
        Check.due("split behind undo() of restore(0)", x.split(0), 2);
        Check.due("restore(0) behind undo()", x.restore(0), 2);
        Check.due("split behind restore(0)", x.split(0), Check.NOT_POSSIBLE);
        // Ears that a restored state has not, and that come again, are as ears are at first.
        Index y = new Index();
        y.save(0);
        y.ear(Check.NONE);
        y.hear(0, T, 9);
        y.second(0, T, 8);
        y.habits(0, 7);
        y.merge(0, 1, 2);
        y.restore(0);
        Check.due("count(1)", y.count(1), 0);
        y.ear(Check.NONE);
        Check.due("class of t", y.of(0, T, 0), 3);
        Check.due("second class of t", y.of(0, T, 1), Check.NONE);
        Check.due("habits", y.ofEar(0, 0), 0);
        Check.due("mergers", y.ofEar(0, 1), 0);
    }

    private static void restoreErrors() {
        Sentence.of("slot: 0 or 1");
        Index x = Check.withNames("ta");
        x.save(0);
        x.drop(0);
        x.save(1);
        Check.due("restore(0)", x.restore(0), 1);
        Check.due("restore(1)", x.restore(1), 0);
        Sentence.of("Returns how many names there are then;");
        x.restore(0);
        Check.addName(x, "la");
        x.save(0);
        x.restore(1);
        Check.due("restore(0)", x.restore(0), 2);
        Check.due("count(0)", x.count(0), 2);
        Sentence.of("BAD_VALUE if there is no such slot;");
        Check.dueForAll("slot", Check.outside(0, 1), x::restore, Check.BAD_VALUE);
        Check.due("restore(NONE)", x.restore(Check.NONE), Check.BAD_VALUE);
        Sentence.of("NOT_POSSIBLE if nothing was saved in it.");
        Index y = Check.withNames("ta");
        Check.due("restore(0)", y.restore(0), Check.NOT_POSSIBLE);
        Check.due("restore(1)", y.restore(1), Check.NOT_POSSIBLE);
        y.save(1);
        Check.due("restore(0)", y.restore(0), Check.NOT_POSSIBLE);
        Check.due("restore(1)", y.restore(1), 1);
        y.undo();
        Check.due("restore(0) behind undo()", y.restore(0), Check.NOT_POSSIBLE);
        y.save(0);
        Check.due("restore(0)", y.restore(0), 1);
    }
}
