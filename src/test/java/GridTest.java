import java.util.ArrayList;
import java.util.Arrays;
import java.util.List;

/**
 * Every call with every argument at, just inside and just outside each edge, all of them with one another, in several
 * states: the answers, and what there is behind them, are held against the model. So the order of errors is seen too.
 */
final class GridTest {
    private static final int LEAST = Integer.MIN_VALUE, MOST = Integer.MAX_VALUE;
    private static final int[] EARS = {LEAST, -6, -1, 0, 1, 3, 4, MOST};
    private static final int[] KINDS = {LEAST, -6, -1, 0, 1, 3, 4, 9, 10, MOST};
    private static final int[] LETTERS = {LEAST, -1, 0, 18, 19, 25, 26, MOST};
    private static final int[] SOME_NAMES = {LEAST, -1, 0, 1, 2, 3, 23, 24, 32, MOST};
    private static final int[] SMALL = {LEAST, -6, -1, 0, 1, 2, 3, 4, 5, 6, 7, 8, MOST};
    private static final int[] SLOTS = {LEAST, -6, -1, 0, 1, 2, MOST};
    private static final int[] SETTINGS = {LEAST, -6, -1, 0, 1, 2, 3, 4, 5, 6, 23, 24, 25, MOST};
    private static final int[] PLACES = {LEAST, -6, -1, 0, 1, 2, 9, 10, 11, 12, MOST};
    private static final int[] DRAWERS = {LEAST, -6, -1, 0, 1, 2, 3, 4, 40, 95, 96, MOST};
    private static final int[] RANKS = {LEAST, -6, -1, 0, 1, 2, 5, 23, 24, MOST};
    private static final int QUESTIONS_PER_LOOK = 100;
    private static final Object[][] CHANGES = {
        {"set", SLOTS, SETTINGS}, {"add"}, {"drop", SOME_NAMES}, {"ear", EARS}, {"hear", EARS, LETTERS, KINDS},
        {"second", EARS, LETTERS, KINDS}, {"habits", EARS, SMALL}, {"merge", EARS, KINDS, KINDS}, {"split", EARS},
        {"wipe"}, {"undo"}, {"save", SLOTS}, {"restore", SLOTS}
    };
    private static final Object[][] QUESTIONS = {
        {"name", SOME_NAMES, PLACES}, {"of", EARS, LETTERS, SMALL}, {"ofEar", EARS, SMALL},
        {"code", EARS, SOME_NAMES, SMALL, SMALL}, {"drawer", EARS, DRAWERS, SLOTS}, {"count", SMALL},
        {"alike", EARS, SOME_NAMES, SOME_NAMES}, {"distance", SOME_NAMES, SOME_NAMES}, {"find", EARS, RANKS, SLOTS},
        {"ifMerged", EARS, KINDS, KINDS, SLOTS}, {"bestMerger", EARS, SMALL}, {"quarrel", EARS, EARS}, {"deafest"}, {"fault"}
    };

    private static final class Pair {
        final Index x = new Index();
        final Model model = new Model();

        int on(String name, Object... arguments) {
            int got = ModelTest.answer(x, name, arguments);
            Check.due(name + Arrays.toString(arguments), got, ModelTest.answer(model, name, arguments));
            return got;
        }

        void name(String name) {
            on("wipe");
            type(name);
            on("add");
        }

        void type(String text) {
            for (char sign : text.toCharArray()) on("put", (long) sign);
        }

        /** All that is held, but for the slots and the history. */
        void look() {
            x.looking(() -> {
                lookAtEach();
                return null;
            });
        }

        private void lookAtEach() {
            for (int what = 0; what < 7; what++) on("count", what);
            on("fault");
            for (int name = 0; name < x.count(0); name++) {
                for (int what = 0; what < 12; what++) on("name", name, what);
            }
            for (int ear = 0; ear < x.count(1); ear++) {
                for (int what : new int[] {0, 1, 6, 7}) on("ofEar", ear, what);
                for (int letter = 0; letter < 26; letter++) {
                    for (int what = 0; what < 2; what++) on("of", ear, letter, what);
                }
            }
        }

        /** The slots, the history and the mergers, too; nothing of them is left then. */
        void lookAtAll() {
            look();
            while (on("undo") >= 0) look();
            for (int slot = 0; slot < 2; slot++) {
                on("restore", slot);
                look();
                for (int ear = 0; ear < x.count(1); ear++) {
                    while (on("split", ear) >= 0) look();
                }
            }
        }
    }

    private GridTest() { }

    static void run() {
        for (int state = 0; state < 5; state++) {
            Check.part("grid of questions, state " + state);
            for (Object[] call : QUESTIONS) asked(call, state);
            Check.part("grid of changes, state " + state);
            Pair refused = made(state);
            for (Object[] call : CHANGES) {
                for (Object[] arguments : grid(call)) refused = changed(refused, state, (String) call[0], arguments);
            }
            refused.lookAtAll();
        }
    }

    /** All questions of that name, with looks in between, since an object answers no more than some hundred of them. */
    private static void asked(Object[] call, int state) {
        Pair pair = made(state);
        int many = 0;
        for (Object[] arguments : grid(call)) {
            pair.on((String) call[0], arguments);
            many++;
            if (many % QUESTIONS_PER_LOOK == 0) pair.look();
        }
        pair.lookAtAll();
    }

    /** The pair for the next call: the same one if this call was refused, else one that is made anew. */
    private static Pair changed(Pair pair, int state, String name, Object[] arguments) {
        int answer = pair.on(name, arguments);
        if (answer < 0 && answer != Check.NONE) return pair;
        pair.look();
        pair.on("undo");
        pair.look();
        return made(state);
    }

    /** 0 nothing, 1 an ear, 2 some of all, 3 a full index with a known name on the pad, 4 the same with a fault. */
    private static Pair made(int state) {
        Pair pair = new Pair();
        if (state == 0) return pair;
        pair.on("ear", -6);
        if (state == 1) return pair;
        for (String name : new String[] {"tas", "sot", "phil"}) pair.name(name);
        pair.on("second", 0, 19, 2);
        pair.on("second", 0, 18, 3);
        pair.on("merge", 0, 4, 6);
        pair.on("save", 0);
        pair.on("ear", 0);
        pair.on("habits", 1, 3);
        pair.on("merge", 1, 3, 2);
        if (state == 2) {
            pair.type("dut");
            return pair;
        }
        for (int i = 3; i < 24; i++) pair.name("t" + "aeilmrsz".charAt(i / 3) + "bcs".charAt(i % 3));
        pair.on("ear", -6);
        pair.on("ear", 1);
        for (int i = 0; i < 6; i++) pair.on("merge", 3, 9 - i, 8 - i);
        pair.on("save", 1);
        pair.type("tas");
        if (state == 4) {
            while (pair.x.count(4) < 80) pair.type("~");
        }
        return pair;
    }

    private static List<Object[]> grid(Object[] call) {
        List<Object[]> grid = new ArrayList<>();
        grid.add(new Object[0]);
        for (int i = 1; i < call.length; i++) {
            List<Object[]> longer = new ArrayList<>();
            for (Object[] arguments : grid) {
                for (int value : (int[]) call[i]) {
                    Object[] more = Arrays.copyOf(arguments, i);
                    more[i - 1] = value;
                    longer.add(more);
                }
            }
            grid = longer;
        }
        return grid;
    }
}
