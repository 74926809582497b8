/** Promises 1 to 11: a new object, the table, the speakers. */
final class TableTest {
    private TableTest() {
    }

    static void run() {
        promise1();
    }

    private static void promise1() {
        WordSupper x = new WordSupper();
        for (int what = 0; what <= 7; what++) {
            Check.due("new count " + what, x.count(what), what == 6 ? 1 : 0);
        }
    }
}
