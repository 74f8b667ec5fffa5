import java.util.Arrays;
import java.util.Random;

/** Long runs of calls, held against the model: each run has the seed of its number, so it is the same every time. */
final class ModelTest {
    private static final int RUNS = 400;
    private static final int[] FAR = {
        Integer.MIN_VALUE, Integer.MAX_VALUE, -1, -2, -3, -4, -5, -6, -7, 10, 11, 12, 24, 25, 26, 32, 64, 1 << 20
    };
    /** What the arguments of each call are, and how often it comes; an argument is told by its greatest value. */
    private static final Object[][] CALLS_OF = {
        {"set", 3, 1, 24}, {"add", 30}, {"drop", 2, 23}, {"ear", 3, 3}, {"hear", 10, 3, 25, 9}, {"second", 25, 3, 25, 9},
        {"habits", 6, 3, 7}, {"merge", 8, 3, 9, 9}, {"split", 6, 3}, {"name", 3, 23, 11}, {"of", 8, 3, 25, 2},
        {"ofEar", 15, 3, 7}, {"code", 20, 3, 23, 3, 6}, {"drawer", 12, 3, 40, 1}, {"count", 5, 6}, {"alike", 6, 3, 23, 23},
        {"distance", 4, 23, 23}, {"find", 12, 3, 5, 1}, {"ifMerged", 8, 3, 9, 9, 1}, {"bestMerger", 2, 3, 2},
        {"quarrel", 5, 3, 3}, {"deafest", 2}, {"put", 30}, {"wipe", 3}, {"fault", 3}, {"undo", 4}, {"save", 2, 1},
        {"restore", 2, 1}
    };

    private final int run;
    private final Random random;
    private final ConsonantIndex x = new ConsonantIndex();
    private final Model model = new Model();
    private int calls = 0;
    private boolean wrong = false;

    private ModelTest(int run) {
        this.run = run;
        random = new Random(run);
    }

    static void run() {
        Check.part("runs against the model");
        for (int run = 0; run < RUNS; run++) new ModelTest(run).go();
    }

    private void go() {
        // Some runs are to come to full indexes, others to live with many dropped and undone changes.
        boolean growing = run % 3 == 0;
        String letters = run % 2 == 0 ? "abcdefghijklmnopqrstuvwxyz" : "aschtpbr";
        if (run % 4 != 3) both("ear", Check.NONE);
        while (calls < Index.CALLS_AT_MOST && !wrong) {
            Object[] what = pick(random);
            String name = (String) what[0];
            if (growing && (name.equals("drop") || name.equals("undo") || name.equals("restore"))) continue;
            if (growing && name.equals("set") && random.nextInt(4) != 0) continue;
            if (name.equals("add") && random.nextInt(3) != 0) typeName(letters);
            both(name, name.equals("put") ? new Object[] {text(random, letters)} : arguments(what));
        }
    }

    /** One call of both; none is made behind the last one for which the document promises an answer. */
    private void both(String name, Object... arguments) {
        if (calls == Index.CALLS_AT_MOST || wrong) return;
        calls++;
        int got = answer(x, name, arguments);
        int due = answer(model, name, arguments);
        wrong = got != due;
        Check.due("run " + run + ", call " + calls + ": " + name + Arrays.toString(arguments), got, due);
    }

    private static Object[] pick(Random random) {
        int all = 0;
        for (Object[] call : CALLS_OF) all += (Integer) call[1];
        int left = random.nextInt(all);
        for (Object[] call : CALLS_OF) {
            left -= (Integer) call[1];
            if (left < 0) return call;
        }
        return CALLS_OF[0];
    }

    private Object[] arguments(Object[] what) {
        Object[] arguments = new Object[what.length - 2];
        for (int i = 0; i < arguments.length; i++) {
            int most = (Integer) what[i + 2];
            // Ears and names are mostly ones that there are.
            if (most == 3 && i == 0) most = Math.max(0, model.count(1) - 1);
            if (most == 23) most = Math.max(0, model.count(0) - 1);
            int value = random.nextInt(most + 1);
            if (random.nextInt(30) == 0) value = FAR[random.nextInt(FAR.length)];
            if (random.nextInt(30) == 0) value = most + 1;
            arguments[i] = value;
        }
        if (what[0].equals("ear") && random.nextBoolean()) arguments[0] = -6;
        if (what[0].equals("second") && random.nextInt(8) == 0) arguments[2] = -6;
        return arguments;
    }

    private void typeName(String letters) {
        int size = 1 + random.nextInt(random.nextBoolean() ? 10 : 4);
        both("wipe");
        while (size > 0) {
            int part = Math.min(8, size);
            both("put", signs(random, letters, part));
            size -= part;
        }
    }

    private static long signs(Random random, String letters, int many) {
        long characters = 0;
        for (int i = 0; i < many; i++) characters = characters << 8 | letters.charAt(random.nextInt(letters.length()));
        return characters;
    }

    private static long text(Random random, String letters) {
        long characters = signs(random, letters, 1 + random.nextInt(8));
        if (random.nextInt(12) == 0) characters ^= (long) random.nextInt(256) << 8 * random.nextInt(8);
        if (random.nextInt(40) == 0) characters = random.nextLong();
        return characters;
    }

    static int answer(Object index, String name, Object... arguments) {
        Class<?>[] types = new Class<?>[arguments.length];
        for (int i = 0; i < types.length; i++) types[i] = arguments[i] instanceof Long ? long.class : int.class;
        try {
            return (Integer) index.getClass().getMethod(name, types).invoke(index, arguments);
        } catch (ReflectiveOperationException failure) {
            throw new IllegalStateException(name + Arrays.toString(arguments), failure);
        }
    }
}
