import java.util.function.IntSupplier;
import java.util.function.IntUnaryOperator;

/** What the tests share: counting of answers, typing of texts, and a picture of all that an index can be asked. */
final class Check {
    static final int NO_SUCH = -1, BAD_VALUE = -2, BAD_TEXT = -3, TOO_MANY = -4, NOT_POSSIBLE = -5, NONE = -6;
    /** Numbers that lie outside every range of the document. */
    static final int[] FAR = {Integer.MIN_VALUE, -1000, -7, 100, 256, 65536, Integer.MAX_VALUE};

    static int passed = 0;
    static int failed = 0;
    private static String part = "";

    private Check() { }

    static void part(String name) {
        part = name;
    }

    static void due(String call, long got, long want) {
        if (got == want) {
            passed++;
            return;
        }
        failed++;
        System.out.println(part + ": " + call + " answered " + got + ", due is " + want);
    }

    static void due(String call, String got, String want) {
        if (got.equals(want)) {
            passed++;
            return;
        }
        failed++;
        System.out.println(part + ": " + call + " gave\n  " + got + "\ndue is\n  " + want);
    }

    /** The call answers that error, and nothing is different behind it. */
    static void refused(Index x, String call, IntSupplier calling, int error) {
        String before = picture(x);
        due(call, calling.getAsInt(), error);
        due("what there is behind " + call, picture(x), before);
    }

    /** The call answers that, and nothing is different behind it. */
    static void asked(Index x, String call, IntSupplier calling, int want) {
        refused(x, call, calling, want);
    }

    /** The call has that answer for each of these numbers. */
    static void dueForAll(String told, int[] numbers, IntUnaryOperator call, int want) {
        for (int number : numbers) due(told + " with " + number, call.applyAsInt(number), want);
    }

    /** Numbers just and far outside a range. */
    static int[] outside(int least, int most) {
        return new int[] {least - 1, most + 1, least - 256, most + 256, most + 65536, Integer.MIN_VALUE, Integer.MAX_VALUE};
    }

    static long characters(String text) {
        long characters = 0;
        for (int i = 0; i < text.length(); i++) characters = characters << 8 | text.charAt(i);
        return characters;
    }

    /** Puts a text of any length on the pad, eight characters a call. */
    static void type(Index x, String text) {
        for (int i = 0; i < text.length(); i += 8) {
            x.put(characters(text.substring(i, Math.min(text.length(), i + 8))));
        }
    }

    static int addName(Index x, String name) {
        x.wipe();
        type(x, name);
        return x.add();
    }

    static int find(Index x, String text, int ear, int rank, int what) {
        x.wipe();
        type(x, text);
        return x.find(ear, rank, what);
    }

    static Index withNames(String... names) {
        Index x = new Index();
        for (String name : names) addName(x, name);
        return x;
    }

    static String nameAt(Index x, int name) {
        StringBuilder text = new StringBuilder();
        for (int place = 1; place <= 10 && x.name(name, place) >= 0; place++) {
            text.append((char) ('a' + x.name(name, place)));
        }
        return text.toString();
    }

    static String codeOf(Index x, int ear, int name, int which) {
        int size = x.code(ear, name, which, 5);
        if (size < 0) return "error " + size;
        StringBuilder text = new StringBuilder("code");
        for (int place = 0; place < size; place++) text.append(' ').append(x.code(ear, name, which, place));
        return text.toString();
    }

    /** All codes of a name, as "3 5, 3 8 5"; a code without numbers as "-". */
    static String codes(Index x, int ear, int name) {
        StringBuilder text = new StringBuilder();
        for (int which = 0; which < 9 && x.code(ear, name, which, 5) >= 0; which++) {
            if (which > 0) text.append(", ");
            String code = codeOf(x, ear, name, which);
            text.append(code.equals("code") ? "-" : code.substring(5));
        }
        return text.toString();
    }

    /** The codes of a name by an ear that is as ears are at first, but for what the call changes. */
    static String codes(String name, Sentence.Call change) {
        Index x = withNames(name);
        x.ear(NONE);
        change.on(x);
        return codes(x, 0, 0);
    }

    /** The names of all drawers of an ear, as "0 2, 1". */
    static String drawers(Index x, int ear, int order) {
        StringBuilder text = new StringBuilder();
        for (int drawer = 0; drawer < 99 && x.drawer(ear, drawer, order) >= 0; drawer++) {
            if (drawer > 0) text.append(", ");
            text.append(numbers(x.drawer(ear, drawer, order)));
        }
        return text.toString();
    }

    /** A set as "0 2". */
    static String numbers(int set) {
        StringBuilder text = new StringBuilder();
        for (int number = 0; number < 32; number++) {
            if ((set & 1 << number) != 0) text.append(text.length() > 0 ? " " : "").append(number);
        }
        return text.toString();
    }

    /** Numbers as a set: the letters of a text, in any order. */
    static int letters(String text) {
        int set = 0;
        for (int i = 0; i < text.length(); i++) set |= 1 << text.charAt(i) - 'a';
        return set;
    }

    static int bits(int... numbers) {
        int set = 0;
        for (int number : numbers) set |= 1 << number;
        return set;
    }

    static int letter(char sign) {
        return sign - 'a';
    }

    /** All that can be asked without a change, as a text: two pictures are the same if nothing is different. */
    static String picture(Index x) {
        return pictureWithoutPad(x) + x.looking(() -> pictureOfPad(x));
    }

    private static String pictureOfPad(Index x) {
        StringBuilder text = new StringBuilder(" pad ").append(x.count(4)).append(' ').append(x.fault());
        text.append(" changes ").append(x.count(5));
        for (int ear = 0; ear < x.count(1); ear++) {
            for (int rank = 0; rank <= x.count(0); rank++) {
                text.append(' ').append(x.find(ear, rank, 0)).append(' ').append(x.find(ear, rank, 1));
            }
        }
        return text.toString();
    }

    /** The same without the pad and the history. */
    static String pictureWithoutPad(Index x) {
        return x.looking(() -> pictureOfRest(x));
    }

    private static String pictureOfRest(Index x) {
        StringBuilder text = new StringBuilder("counts");
        for (int what = 0; what < 7; what++) {
            if (what != 4 && what != 5) text.append(' ').append(x.count(what));
        }
        int names = x.count(0);
        for (int name = 0; name < names; name++) {
            text.append(" / ").append(nameAt(x, name));
            for (int other = 0; other < names; other++) text.append(' ').append(x.distance(name, other));
        }
        for (int ear = 0; ear < x.count(1); ear++) pictureOfEar(x, ear, names, text);
        return text.append(" deafest ").append(x.deafest()).toString();
    }

    private static void pictureOfEar(Index x, int ear, int names, StringBuilder text) {
        text.append("\n  ear");
        for (int letter = 0; letter < 26; letter++) {
            text.append(' ').append(x.of(ear, letter, 0)).append(',').append(x.of(ear, letter, 1));
        }
        for (int what = 0; what < 8; what++) text.append(' ').append(x.ofEar(ear, what));
        for (int name = 0; name < names; name++) {
            text.append(" /");
            for (int which = 0; which < 4; which++) {
                text.append(' ').append(codeOf(x, ear, name, which)).append(' ').append(x.code(ear, name, which, 6));
            }
        }
        for (int order = 0; order < 2; order++) {
            text.append(" order ").append(order);
            for (int drawer = 0; drawer <= x.ofEar(ear, 2); drawer++) text.append(' ').append(x.drawer(ear, drawer, order));
        }
        for (int other = 0; other < x.count(1); other++) text.append(" quarrel ").append(x.quarrel(ear, other));
        for (int what = 0; what < 3; what++) text.append(' ').append(x.bestMerger(ear, what));
    }
}
