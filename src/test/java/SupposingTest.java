/** Promises 20 to 23: what if. */
final class SupposingTest {
    private SupposingTest() { }

    static void run() {
        ifMerged();
        bestMerger();
        bestMergerOfFew();
        quarrel();
        deafest();
    }

    private static void ifMerged() {
        Check.part("promise 20, ifMerged");
        Index x = Check.withNames("rat", "lat", "ram", "lam", "mal", "at");
        x.ear(Check.NONE);
        Check.asked(x, "ifMerged(0, 4, 6, 0)", () -> x.ifMerged(0, 4, 6, 0), 4);
        Check.asked(x, "ifMerged(0, 4, 6, 1)", () -> x.ifMerged(0, 4, 6, 1), 2);
        Check.due("ifMerged(0, 6, 4, 1)", x.ifMerged(0, 6, 4, 1), 2);
        Check.due("ifMerged(0, 0, 6, 0)", x.ifMerged(0, 0, 6, 0), 5);
        Check.due("ifMerged(0, 0, 6, 1)", x.ifMerged(0, 0, 6, 1), 1);
        Check.due("ifMerged(0, 9, 0, 0)", x.ifMerged(0, 9, 0, 0), 6);
        Check.due("ifMerged(0, 1, 8, 0) without letters", x.ifMerged(0, 1, 8, 0), 6);
        Check.due("ifMerged(0, 1, 8, 1) without letters", x.ifMerged(0, 1, 8, 1), 0);
        x.second(0, Check.letter('r'), 4);
        // rat 63 43, lat 43, ram 65 45, lam 45: merging takes the second class away
        Check.due("ofEar(0, 2)", x.ofEar(0, 2), 6);
        Check.due("ofEar(0, 5)", x.ofEar(0, 5), 2);
        Check.asked(x, "ifMerged(0, 6, 4, 0)", () -> x.ifMerged(0, 6, 4, 0), 4);
        x.merge(0, 6, 4);
        Check.due("drawers as they were foretold", x.ofEar(0, 2), 4);
        for (int far : Check.FAR) {
            Check.asked(x, "ifMerged(" + far + ", 1, 2, 0)", () -> x.ifMerged(far, 1, 2, 0), Check.NO_SUCH);
            Check.asked(x, "ifMerged(0, " + far + ", 2, 0)", () -> x.ifMerged(0, far, 2, 0), Check.BAD_VALUE);
            Check.asked(x, "ifMerged(0, 1, " + far + ", 0)", () -> x.ifMerged(0, 1, far, 0), Check.BAD_VALUE);
            Check.asked(x, "ifMerged(0, 1, 2, " + far + ")", () -> x.ifMerged(0, 1, 2, far), Check.BAD_VALUE);
        }
        int[][] wrong = {{1, 1, 0}, {0, 0, 1}, {-1, 2, 0}, {10, 2, 0}, {1, -1, 0}, {1, 10, 0}, {1, 2, 2}, {1, 2, -1}};
        for (int[] w : wrong) {
            String told = w[0] + ", " + w[1] + ", " + w[2] + ")";
            Check.asked(x, "ifMerged(0, " + told, () -> x.ifMerged(0, w[0], w[1], w[2]), Check.BAD_VALUE);
            Check.asked(x, "ifMerged(1, " + told, () -> x.ifMerged(1, w[0], w[1], w[2]), Check.NO_SUCH);
        }
    }

    private static void bestDue(Index x, int ear, int lower, int higher, int pairs) {
        Check.asked(x, "bestMerger(" + ear + ", 0)", () -> x.bestMerger(ear, 0), lower);
        Check.asked(x, "bestMerger(" + ear + ", 1)", () -> x.bestMerger(ear, 1), higher);
        Check.asked(x, "bestMerger(" + ear + ", 2)", () -> x.bestMerger(ear, 2), pairs);
    }

    private static void bestMerger() {
        Check.part("promise 21, bestMerger");
        Index x = Check.withNames("ba", "ca", "da", "la", "ma", "bara");
        x.ear(Check.NONE);
        // 1, 2, 3, 4, 5, 16: no pair is alike with 6 and any other one merged
        bestDue(x, 0, 1, 6, 0);
        Check.addName(x, "baba");
        bestDue(x, 0, 2, 6, 0);
        Check.addName(x, "ra");
        bestDue(x, 0, 1, 2, 1);
        Check.addName(x, "caba");
        Check.addName(x, "daba");
        bestDue(x, 0, 1, 4, 1);
        x.set(ConsonantIndex.LENGTH, 1);
        // 1: ba bara baba, 2: ca caba, 3: da daba, 4: la, 5: ma, 6: ra
        bestDue(x, 0, 4, 5, 6);
        for (int far : Check.FAR) {
            Check.asked(x, "bestMerger(" + far + ", 0)", () -> x.bestMerger(far, 0), Check.NO_SUCH);
            Check.asked(x, "bestMerger(0, " + far + ")", () -> x.bestMerger(0, far), Check.BAD_VALUE);
        }
        Check.asked(x, "bestMerger(1, 3)", () -> x.bestMerger(1, 3), Check.NO_SUCH);
        Check.asked(x, "bestMerger(0, 3)", () -> x.bestMerger(0, 3), Check.BAD_VALUE);
        Check.asked(x, "bestMerger(0, -1)", () -> x.bestMerger(0, -1), Check.BAD_VALUE);
    }

    private static void bestMergerOfFew() {
        Check.part("promise 21, bestMerger of few classes");
        Index x = new Index();
        x.ear(Check.NONE);
        bestDue(x, 0, 1, 2, 0);
        x.merge(0, 0, 1);
        x.merge(0, 0, 3);
        bestDue(x, 0, 2, 4, 0);
        x.merge(0, 0, 4);
        x.merge(0, 0, 5);
        x.merge(0, 9, 6);
        bestDue(x, 0, 2, 9, 0);
        x.merge(0, 2, 9);
        x.second(0, 0, 9);
        bestDue(x, 0, Check.NONE, Check.NONE, Check.NONE);
        Check.asked(x, "bestMerger(0, 3)", () -> x.bestMerger(0, 3), Check.BAD_VALUE);
        x.merge(0, 0, 2);
        bestDue(x, 0, Check.NONE, Check.NONE, Check.NONE);
        // the higher one goes into the lower one: a letter with the lower one as its second class loses it
        Index y = Check.withNames("ra", "la");
        y.ear(Check.NONE);
        for (int kind : new int[] {1, 2, 3, 5}) y.merge(0, 0, kind);
        y.second(0, Check.letter('r'), 4);
        y.second(0, Check.letter('l'), 7);
        bestDue(y, 0, 4, 6, 1);
        Check.due("ifMerged(0, 4, 6, 0)", y.ifMerged(0, 4, 6, 0), 2);
    }

    private static void quarrel() {
        Check.part("promise 22, quarrel");
        Index x = Check.withNames("tom", "dan", "sam", "ram", "rom");
        x.ear(Check.NONE);
        x.ear(Check.NONE);
        x.merge(1, 3, 2);
        x.hear(1, Check.letter('d'), 8);
        // ear 0: tom dan, ram rom; ear 1: tom sam, ram rom
        Check.asked(x, "quarrel(0, 1)", () -> x.quarrel(0, 1), 1);
        Check.asked(x, "quarrel(1, 0)", () -> x.quarrel(1, 0), 1);
        x.merge(1, 3, 6);
        // ear 1: tom sam ram rom
        Check.due("quarrel(0, 1)", x.quarrel(0, 1), 1);
        Check.due("quarrel(1, 0)", x.quarrel(1, 0), 5);
        Check.due("quarrel(1, 1)", x.quarrel(1, 1), 0);
        for (int far : Check.FAR) {
            Check.asked(x, "quarrel(" + far + ", 0)", () -> x.quarrel(far, 0), Check.NO_SUCH);
            Check.asked(x, "quarrel(0, " + far + ")", () -> x.quarrel(0, far), Check.NO_SUCH);
        }
        Check.asked(x, "quarrel(0, 2)", () -> x.quarrel(0, 2), Check.NO_SUCH);
        Check.asked(x, "quarrel(2, 0)", () -> x.quarrel(2, 0), Check.NO_SUCH);
        Check.asked(x, "quarrel(-1, 0)", () -> x.quarrel(-1, 0), Check.NO_SUCH);
    }

    private static void deafest() {
        Check.part("promise 23, deafest");
        Index x = Check.withNames("tom", "dan", "sam", "ram");
        Check.asked(x, "deafest() without ears", x::deafest, Check.NONE);
        x.ear(Check.NONE);
        Check.asked(x, "deafest() of one", x::deafest, 0);
        x.ear(Check.NONE);
        x.ear(Check.NONE);
        Check.asked(x, "deafest() of the same", x::deafest, 0);
        x.merge(2, 3, 2);
        Check.asked(x, "deafest()", x::deafest, 2);
        x.merge(1, 3, 2);
        Check.asked(x, "deafest()", x::deafest, 1);
        x.merge(2, 3, 6);
        Check.asked(x, "deafest()", x::deafest, 2);
        x.hear(0, Check.letter('t'), 9);
        Check.asked(x, "deafest()", x::deafest, 2);
        Index empty = new Index();
        empty.ear(Check.NONE);
        empty.ear(Check.NONE);
        Check.due("deafest() without names", empty.deafest(), 0);
    }
}
