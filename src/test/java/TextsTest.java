/** Promises 24 to 26: texts. */
final class TextsTest {
    private TextsTest() { }

    static void run() {
        put();
        putLimits();
        wipe();
        fault();
    }

    private static void put() {
        Check.part("promise 24, put");
        Index x = new Index();
        Check.due("put of a", x.put('a'), 1);
        Check.due("put of eight", x.put(Check.characters("bcdefghi")), 9);
        Check.due("count(4)", x.count(4), 9);
        x.add();
        Check.due("the characters stand in their order", Check.nameAt(x, 0), "abcdefghi");
        Check.due("put is no change", x.count(5), 1);
        Check.due("put of the first and the last code", x.put(33L << 8 | 126), 2);
        Check.due("put of eight of the last code", x.put(0x7E7E7E7E7E7E7E7EL), 10);
        long[] wrong = {
            0, -1, Long.MIN_VALUE, Long.MAX_VALUE, 32, 127, 128, 255, 1, 256, 'a' << 8, 'a' << 16 | 'a', 32 << 8 | 'a',
            127 << 8 | 'a', 'a' << 8 | 32, 'a' << 8 | 127, 1L << 63 | 'a', 1L << 56 | 'a', 0x6161616161616120L,
            0x2061616161616161L, 0x7F61616161616161L, 0x8061616161616161L, 0x6100616161616161L, 0x6161616161616100L,
            0x0100000000000000L, 1L << 32, 1L << 32 | 'a', 'a' + (10L << 8)
        };
        for (long characters : wrong) {
            Check.refused(x, "put(" + Long.toHexString(characters) + ")", () -> x.put(characters), Check.BAD_VALUE);
        }
    }

    private static void putLimits() {
        Check.part("promise 24, put at the longest pad");
        Index x = new Index();
        for (int i = 1; i <= 9; i++) Check.due("put of eight", x.put(Check.characters("abcdefgh")), 8 * i);
        Check.due("put of three", x.put(Check.characters("abc")), 75);
        Check.refused(x, "put of six", () -> x.put(Check.characters("abcdef")), Check.TOO_MANY);
        Check.refused(x, "put of eight", () -> x.put(Check.characters("abcdefgh")), Check.TOO_MANY);
        Check.due("put of five", x.put(Check.characters("abcde")), 80);
        Check.refused(x, "put of one", () -> x.put('a'), Check.TOO_MANY);
        Check.refused(x, "put of a wrong one", () -> x.put(127), Check.BAD_VALUE);
        Check.refused(x, "put of none", () -> x.put(0), Check.BAD_VALUE);
        Check.due("fault()", x.fault(), 10);
    }

    private static void wipe() {
        Check.part("promise 25, wipe");
        Index x = Check.withNames("ada");
        Check.due("wipe() of nothing", x.wipe(), 0);
        Check.type(x, "abcdefghijkl");
        Check.due("wipe()", x.wipe(), 12);
        Check.due("count(4)", x.count(4), 0);
        Check.due("fault()", x.fault(), 0);
        Check.due("wipe() is no change", x.count(5), 1);
        Check.due("put", x.put('b'), 1);
        Check.due("add()", x.add(), 1);
        Check.due("nothing is left of what was wiped", Check.nameAt(x, 1), "b");
    }

    private static void faultDue(String text, int due) {
        Index x = new Index();
        Check.type(x, text);
        Check.asked(x, "fault() of " + text, x::fault, due);
    }

    private static void fault() {
        Check.part("promise 26, fault");
        faultDue("", 0);
        faultDue("a", Check.NONE);
        faultDue("z", Check.NONE);
        faultDue("`", 0);
        faultDue("{", 0);
        faultDue("A", 0);
        faultDue("abc-", 3);
        faultDue("a~b~", 1);
        faultDue("abcdefghij", Check.NONE);
        faultDue("abcdefghijk", 10);
        faultDue("abcdefghij!", 10);
        faultDue("abcdefghijklmnop!", 10);
        faultDue("abcdefghi!jkl", 9);
        faultDue("0bcdefghijkl", 0);
    }
}
