import java.util.ArrayList;
import java.util.List;

/** Promises 27 to 29: undo, saving. */
final class PastTest {
    private PastTest() { }

    static void run() {
        undo();
        undoOfEachChange();
        whatIsNoChange();
        errorsRecordNothing();
        save();
        restore();
        settingsAndEarsAreSaved();
    }

    private static void undo() {
        Check.part("promise 27, undo");
        Index x = new Index();
        Check.refused(x, "undo() of nothing", x::undo, Check.NOT_POSSIBLE);
        List<String> pictures = new ArrayList<>();
        for (int i = 0; i < 8; i++) {
            pictures.add(Check.pictureWithoutPad(x));
            Check.addName(x, "n" + (char) ('a' + i));
            Check.due("count(5)", x.count(5), Math.min(6, i + 1));
        }
        Check.type(x, "pad");
        for (int i = 0; i < 6; i++) {
            Check.due("undo()", x.undo(), 5 - i);
            Check.due("count(5)", x.count(5), 5 - i);
            Check.due("behind undo()", Check.pictureWithoutPad(x), pictures.get(7 - i));
            Check.due("the pad stays", x.count(4), 3);
        }
        Check.refused(x, "undo() beyond the oldest one", x::undo, Check.NOT_POSSIBLE);
        Check.due("count(0)", x.count(0), 2);
        Check.due("what was undone comes again", Check.addName(x, "ny"), 2);
        Check.due("undo()", x.undo(), 0);
        Check.due("the pad stays empty", x.count(4), 0);
    }

    private interface Change {
        int on(Index x);
    }

    private static void undoOfEachChange() {
        Check.part("promise 27, undo of each change");
        String[] told = {
            "set", "add", "drop", "ear", "hear", "second", "habits", "merge", "split", "restore", "set to the same",
            "hear the same", "second to none", "habits to the same", "merge without letters", "restore of the same"
        };
        Change[] changes = {
            x -> x.set(0, 2), x -> x.add(), x -> x.drop(0), x -> x.ear(0), x -> x.hear(0, 3, 9), x -> x.second(0, 3, 9),
            x -> x.habits(0, 7), x -> x.merge(0, 3, 2), x -> x.split(0), x -> x.restore(0), x -> x.set(1, 24),
            x -> x.hear(0, 3, 3), x -> x.second(0, 3, -6), x -> x.habits(0, 1), x -> x.merge(0, 8, 7), x -> x.restore(1)
        };
        for (int i = 0; i < changes.length; i++) {
            Index x = new Index();
            x.save(0);
            Check.addName(x, "shasta");
            Check.addName(x, "dirk");
            x.ear(Check.NONE);
            x.habits(0, 1);
            x.merge(0, 4, 6);
            x.save(1);
            Check.type(x, "new");
            String before = Check.pictureWithoutPad(x);
            int answer = changes[i].on(x);
            Check.due(told[i] + " is no error", answer >= 0 || answer == Check.NONE ? 1 : 0, 1);
            Check.due("count(5) behind " + told[i], x.count(5), 6);
            Check.due("undo() behind " + told[i], x.undo(), 5);
            Check.due("behind undo() of " + told[i], Check.pictureWithoutPad(x), before);
            Check.due("mergers behind undo() of " + told[i], x.ofEar(0, 1), 1);
        }
    }

    private static void whatIsNoChange() {
        Check.part("promise 27, what is no change");
        Index x = Check.withNames("ada", "ben");
        x.ear(Check.NONE);
        int changes = x.count(5);
        x.put('a');
        x.wipe();
        x.save(0);
        x.name(0, 0);
        x.of(0, 0, 0);
        x.find(0, 0, 0);
        x.ifMerged(0, 1, 2, 0);
        x.bestMerger(0, 0);
        x.set(0, 9);
        x.drop(9);
        Check.due("count(5)", x.count(5), changes);
    }

    /** On an object whose history is not full, so that one more would be seen. */
    private static void errorsRecordNothing() {
        Check.part("promise 27, errors record nothing");
        Index x = new Index();
        x.ear(Check.NONE);
        Change[] errors = {
            y -> y.set(0, 6), y -> y.set(1, 25), y -> y.set(2, 1), y -> y.add(), y -> y.drop(0), y -> y.ear(1),
            y -> y.hear(1, 0, 0), y -> y.hear(0, 26, 0), y -> y.hear(0, 0, 10), y -> y.second(1, 0, 1),
            y -> y.second(0, 26, 1), y -> y.second(0, 0, 10), y -> y.second(0, 0, 0), y -> y.habits(1, 0),
            y -> y.habits(0, 8), y -> y.merge(1, 1, 2), y -> y.merge(0, 1, 1), y -> y.merge(0, 10, 1), y -> y.split(1),
            y -> y.split(0), y -> y.restore(2), y -> y.restore(0)
        };
        for (int i = 0; i < errors.length; i++) {
            int answer = errors[i].on(x);
            Check.due("error " + i + " is one", answer < 0 && answer != Check.NONE ? 1 : 0, 1);
            Check.due("count(5) behind error " + i, x.count(5), 1);
        }
        for (int i = 0; i < 3; i++) x.ear(Check.NONE);
        Check.due("ear(NONE), the fifth", x.ear(Check.NONE), Check.TOO_MANY);
        Check.due("count(5) behind it", x.count(5), 4);
        Check.due("undo()", x.undo(), 3);
        Check.due("count(1)", x.count(1), 3);
        Index names = Check.withNames("ada");
        Check.due("a name that there is", Check.addName(names, "ada"), Check.NOT_POSSIBLE);
        Check.due("count(5) behind it", names.count(5), 1);
        names.set(1, 1);
        Check.due("one name more", Check.addName(names, "ben"), Check.TOO_MANY);
        Check.due("count(5) behind it", names.count(5), 2);
    }

    private static void save() {
        Check.part("promise 28, save");
        Index x = Check.withNames("ada", "ben");
        Check.asked(x, "save(0)", () -> x.save(0), 2);
        for (int far : Check.FAR) Check.refused(x, "save(" + far + ")", () -> x.save(far), Check.BAD_VALUE);
        Check.refused(x, "save(2)", () -> x.save(2), Check.BAD_VALUE);
        Check.refused(x, "save(-1)", () -> x.save(-1), Check.BAD_VALUE);
        x.drop(0);
        Check.asked(x, "save(1)", () -> x.save(1), 1);
        x.drop(0);
        Check.due("restore(0)", x.restore(0), 2);
        Check.due("restore(1)", x.restore(1), 1);
        Check.due("save(0) over what was saved", x.save(0), 1);
        x.drop(0);
        Check.due("restore(0)", x.restore(0), 1);
        Check.due("name 0", Check.nameAt(x, 0), "ben");
        x.undo();
        x.undo();
        x.undo();
        Check.due("undo leaves the slots alone", x.restore(0), 1);
    }

    private static void restore() {
        Check.part("promise 29, restore");
        Index x = Check.withNames("ada", "ben");
        for (int far : Check.FAR) Check.refused(x, "restore(" + far + ")", () -> x.restore(far), Check.BAD_VALUE);
        Check.refused(x, "restore(2)", () -> x.restore(2), Check.BAD_VALUE);
        Check.refused(x, "restore(-1)", () -> x.restore(-1), Check.BAD_VALUE);
        Check.refused(x, "restore(1)", () -> x.restore(1), Check.NOT_POSSIBLE);
        x.save(0);
        Check.refused(x, "restore(1)", () -> x.restore(1), Check.NOT_POSSIBLE);
        Check.addName(x, "cleo");
        Check.type(x, "pad");
        Check.due("restore(0)", x.restore(0), 2);
        Check.due("restore is a change", x.count(5), 4);
        Check.due("the pad stays", x.count(4), 3);
        Check.due("undo() of it", x.undo(), 3);
        Check.due("count(0)", x.count(0), 3);
        Check.due("the slot keeps it", x.restore(0), 2);
        x.drop(0);
        Check.due("a change behind it leaves the slot alone", x.restore(0), 2);
        Check.due("name 0", Check.nameAt(x, 0), "ada");
    }

    private static void settingsAndEarsAreSaved() {
        Check.part("promise 28, what is saved");
        Index x = Check.withNames("shasta", "ben");
        x.set(0, 2);
        x.set(1, 9);
        x.ear(Check.NONE);
        x.ear(Check.NONE);
        x.hear(1, 0, 8);
        x.second(1, 1, 9);
        x.habits(1, 5);
        x.merge(1, 3, 2);
        x.drop(1);
        x.undo();
        String saved = Check.pictureWithoutPad(x);
        x.save(1);
        x.split(1);
        x.habits(1, 0);
        x.second(1, 1, Check.NONE);
        x.hear(1, 0, 1);
        x.ear(0);
        x.set(1, 8);
        x.set(0, 1);
        x.drop(0);
        x.restore(1);
        Check.due("behind restore(1)", Check.pictureWithoutPad(x), saved);
        Check.due("its mergers are there", x.split(1), 2);
        Check.due("its mergers are there", x.of(1, 18, 0), 2);
        Check.due("the slot keeps its mergers", x.restore(1), 2);
        Check.due("behind restore(1)", Check.pictureWithoutPad(x), saved);
    }
}
