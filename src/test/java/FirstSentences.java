import java.util.Random;
import java.util.function.ToIntFunction;

/** What the document says ahead of its terms: what the class is, and for how many calls an object is used. */
final class FirstSentences {
    private static final int C = 2, L = 11, R = 17, T = 19;
    private static final int[] EDGES = {
        Integer.MIN_VALUE, -7, -6, -5, -1, 0, 1, 2, 3, 4, 5, 6, 7, 8, 9, 10, 11, 12, 19, 23, 24, 25, 26, 95, 96, Integer.MAX_VALUE
    };

    private FirstSentences() { }

    static void run() {
        Sentence.under("What it is");
        whatItIs();
        usedForManyCalls();
        neverThrows();
    }

    private static void whatItIs() {
        Sentence.of("Consonants as an index of names that ears hear unlike: names of letters, ears with classes of letters, "
            + "letters that are silent, letters that are heard in two classes, habits of ears, codes of names, drawers of "
            + "names with the same code, names in two drawers, classes that merge and are split again, names that are heard "
            + "alike, names that are looked up by ear and by letters, what a merger would bring, the merger that costs the "
            + "least, pairs over which ears quarrel, the deafest ear, undo, and saved states.");
        Index x = Check.withNames("tom", "tim", "cam", "ril");
        x.ear(Check.NONE);
        x.ear(Check.NONE);
        Check.due("a name of letters", Check.nameAt(x, 0), "tom");
        Check.due("a class of letters", x.of(0, T, 2), Check.letters("dt"));
        Check.due("letters that are silent", x.ofEar(0, 7), Check.letters("aehiouwy"));
        x.second(0, C, 3);
        Check.due("a letter that is heard in two classes", x.ofEar(0, 6), Check.letters("c"));
        Check.due("a habit of an ear", x.habits(1, 4), 0);
        Check.due("codes of a name", Check.codes(x, 0, 2), "2 5, 3 5");
        Check.due("a code of a name by a habit", Check.codes(x, 1, 2), "12 5");
        Check.due("drawers of names with the same code", Check.drawers(x, 0, 0), "0 1 2, 2, 3");
        Check.due("names in two drawers", x.ofEar(0, 4), Check.bits(2));
        Check.due("names that are heard alike", x.alike(0, 1, 2), 1);
        Check.type(x, "dim");
        Check.due("a name that is looked up by ear, and by letters", x.find(0, 0, 0), 1);
        Check.due("a name that is looked up by ear, and not by letters", x.find(0, 2, 0), 2);
        Check.due("what a merger would bring", x.ifMerged(0, 3, 6, 0), 3);
        Check.due("what a merger would bring", x.ifMerged(0, 2, 3, 0), 2);
        Check.due("the merger that costs the least", x.bestMerger(0, 2), 3);
        Check.due("pairs over which ears quarrel", x.quarrel(0, 1), 2);
        Check.due("the deafest ear", x.deafest(), 0);
        Check.due("classes that merge", x.merge(0, 4, 6), 2);
        Check.due("a class that is merged", x.of(0, R, 2), Check.letters("lr"));
        Check.due("and are split again", x.split(0), 6);
        Check.due("a class that is split again", x.of(0, L, 2), Check.letters("l"));
        Check.due("a state is saved", x.save(0), 4);
        x.drop(0);
        Check.due("undo", x.undo(), 5);
        Check.due("a name that was dropped", Check.nameAt(x, 0), "tom");
        x.drop(3);
        Check.due("a saved state", x.restore(0), 4);
        Check.due("a name that was saved", Check.nameAt(x, 3), "ril");
    }

    /** An object whose next call is its 512th one, which all calls before have brought to names, ears and changes. */
    private static ConsonantIndex beforeItsLastCall() {
        ConsonantIndex x = new ConsonantIndex();
        for (char sign : "tarolim".toCharArray()) {
            x.put('t');
            x.put(sign);
            x.add();
        }
        x.ear(Check.NONE);
        x.save(1);
        for (int calls = 7 * 3 + 2; calls < Index.CALLS_AT_MOST - 1 - 4; calls++) x.hear(0, calls % 26, calls % 10);
        x.restore(1);
        x.merge(0, 3, 6);
        x.put('t');
        x.put('l');
        return x;
    }

    private static void lastDue(String told, ToIntFunction<ConsonantIndex> call, int want) {
        Check.due(told + ", the 512th call", call.applyAsInt(beforeItsLastCall()), want);
    }

    private static void usedForManyCalls() {
        Sentence.of("An object is used for at most 512 calls after it has been made; what later calls answer is free.");
        lastDue("add()", x -> x.add(), Check.NOT_POSSIBLE);
        lastDue("drop(0)", x -> x.drop(0), 6);
        lastDue("ear(0)", x -> x.ear(0), 1);
        lastDue("split(0)", x -> x.split(0), 6);
        lastDue("name(6, 2)", x -> x.name(6, 2), 'm' - 'a');
        lastDue("of(0, r, 2)", x -> x.of(0, R, 2), Check.letters("drt"));
        lastDue("ofEar(0, 2) of tt, ta, tr, to, tl, ti, tm", x -> x.ofEar(0, 2), 3);
        lastDue("code(0, 6, 0, 5)", x -> x.code(0, 6, 0, 5), 2);
        lastDue("drawer(0, 0, 0)", x -> x.drawer(0, 0, 0), Check.bits(0, 1, 2, 3, 5));
        lastDue("count(5)", x -> x.count(5), 6);
        lastDue("find(0, 0, 0)", x -> x.find(0, 0, 0), 4);
        lastDue("bestMerger(0, 2)", x -> x.bestMerger(0, 2), 10);
        lastDue("put(a)", x -> x.put('a'), 3);
        lastDue("undo()", x -> x.undo(), 5);
        lastDue("restore(0)", x -> x.restore(0), Check.NOT_POSSIBLE);
        lastDue("restore(1)", x -> x.restore(1), 7);
    }

    /** What later calls answer is free, but LANGUAGE.md, rule 7, has no call of any object throw. */
    private static void neverThrows() {
        Check.part("LANGUAGE.md, rule 7");
        for (int run = 0; run < 40; run++) {
            Random random = new Random(run);
            ConsonantIndex x = run % 2 == 0 ? new ConsonantIndex() : beforeItsLastCall();
            for (int call = 0; call < 4 * Index.CALLS_AT_MOST; call++) anyCall(x, random);
            Check.passed++;
        }
    }

    /** Any call with any arguments: what it throws, AllTests does not catch. */
    private static void anyCall(ConsonantIndex x, Random random) {
        int a = EDGES[random.nextInt(EDGES.length)];
        int b = EDGES[random.nextInt(EDGES.length)];
        int c = EDGES[random.nextInt(EDGES.length)];
        int d = EDGES[random.nextInt(EDGES.length)];
        int ear = random.nextInt(5) - 1;
        switch (random.nextInt(30)) {
            case 0: x.set(random.nextInt(3), a); break;
            case 1: x.add(); break;
            case 2: x.drop(a); break;
            case 3: x.ear(random.nextBoolean() ? a : Check.NONE); break;
            case 4: x.hear(ear, a, b); break;
            case 5: x.second(ear, a, b); break;
            case 6: x.habits(ear, a); break;
            case 7: x.merge(ear, a, b); break;
            case 8: x.split(ear); break;
            case 9: x.name(a, b); break;
            case 10: x.of(ear, a, b); break;
            case 11: x.ofEar(a, b); break;
            case 12: x.code(ear, a, b, c); break;
            case 13: x.drawer(ear, a, b); break;
            case 14: x.count(a); break;
            case 15: x.alike(ear, a, b); break;
            case 16: x.distance(a, b); break;
            case 17: x.find(ear, a, b); break;
            case 18: x.ifMerged(ear, a, b, c); break;
            case 19: x.bestMerger(ear, a); break;
            case 20: x.quarrel(ear, a); break;
            case 21: x.deafest(); break;
            case 22: x.wipe(); break;
            case 23: x.fault(); break;
            case 24: x.undo(); break;
            case 25: x.save(a); break;
            case 26: x.restore(a); break;
            case 27: x.put((long) c << 32 | d); break;
            default: x.put('a' + random.nextInt(26)); break;
        }
    }
}
