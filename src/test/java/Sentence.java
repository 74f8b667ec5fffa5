import java.util.ArrayList;
import java.util.List;
import java.util.function.Supplier;

/** The sentences of the document that have a test of their own: each test begins with the words that it is about. */
final class Sentence {
    /** A call, or several ones; the answer is that of the last one. */
    interface Call {
        int on(Index x);
    }

    record Quote(String section, String words) { }

    static final List<Quote> QUOTED = new ArrayList<>();
    private static String section = "";

    private Sentence() { }

    /** The heading under which the next words stand. */
    static void under(String heading) {
        section = heading;
    }

    static void of(String words) {
        QUOTED.add(new Quote(section, words));
        Check.part(section + ", \"" + words + "\"");
    }

    /** The call is a change with that answer: undo takes it back, and it alone. */
    static void isChange(Supplier<Index> made, String told, Call call, int want) {
        Index x = made.get();
        String before = Check.pictureWithoutPad(x);
        int changes = x.count(5);
        Check.due(told, call.on(x), want);
        Check.due("count(5) behind " + told, x.count(5), Math.min(6, changes + 1));
        Check.due("undo() behind " + told, x.undo(), Math.min(5, changes));
        Check.due("what there is behind undo() of " + told, Check.pictureWithoutPad(x), before);
    }

    /** The call has that answer, and is no change: not even of what only later calls would show. */
    static void changesNothing(Supplier<Index> made, String told, Call call, int want) {
        Check.due(told, call.on(made.get()), want);
        Supplier<Index> called = () -> {
            Index x = made.get();
            call.on(x);
            return x;
        };
        Check.due("what there is behind " + told, wholePicture(called), wholePicture(made));
    }

    /** A picture of all that an object holds: the history, the slots and the mergers are seen by using them up. */
    private static String wholePicture(Supplier<Index> made) {
        Index x = made.get();
        StringBuilder text = new StringBuilder(Check.picture(x));
        while (x.undo() >= 0) text.append("\nundone ").append(Check.pictureWithoutPad(x));
        for (int slot = 0; slot < 2; slot++) {
            text.append("\nslot ").append(slot).append(' ').append(x.restore(slot));
            text.append(' ').append(Check.pictureWithoutPad(x));
            splitAll(x, text);
        }
        splitAll(made.get(), text);
        return text.toString();
    }

    private static void splitAll(Index x, StringBuilder text) {
        for (int ear = 0; ear < x.count(1); ear++) {
            for (int split = x.split(ear); split >= 0; split = x.split(ear)) {
                text.append("\nsplit ").append(split);
                for (int letter = 0; letter < 26; letter++) {
                    text.append(' ').append(x.of(ear, letter, 0)).append(',').append(x.of(ear, letter, 1));
                }
            }
        }
    }
}
