/** Promises 25 to 29: told plates, talk by draws. */
final class ToldTest {
    private ToldTest() {
    }

    static void run() {
        promise25();
        promise26();
        promise27();
        promise28();
        promise29();
    }

    private static void toldBy(WordSupper x, boolean byKind, int due, int... numbers) {
        Check.lay(x, 0, numbers);
        String call = (byKind ? "26: kinds by " : "25: fits by ") + java.util.Arrays.toString(numbers);
        Check.due(call, byKind ? x.kinds(0, 0) : x.fits(0, 0), due);
    }

    private static void promise25() {
        WordSupper x = Check.told("cook");
        toldBy(x, false, 63);
        toldBy(x, false, 63, 1);
        toldBy(x, false, 0, 0);
        toldBy(x, false, 63, -1);
        toldBy(x, false, 47, 1, 0);
        toldBy(x, false, 16, 1, 1);
        toldBy(x, false, 16, -1, -1, -1, 1);
        toldBy(x, false, 63, 1, -1);
        toldBy(x, false, 0, -2);
        x.serve(0, 3, 3);
        // Thirteen bites, twelve of these for the promises: only cream and pears go down along with them.
        toldBy(x, false, 0b100001, 4, 0);
        toldBy(x, false, 0b011110, 4, 1);
        toldBy(x, false, 0b001110, 4, 1, 0);
        Check.due("25: nothing changes", x.of(0, 5), 3);
        Check.due("25: no day went by", x.now(0), 0);
        x.sheet(0, 8, 1);
        x.write(0, 0, 255);
        Check.due("25: of eight bits 255 is any", x.fits(0, 0), 63);
        refusedTold(x, false);
        Check.lay(x, 2, new int[40]);
        Check.due("25: forty numbers", x.fits(2, 0), 0);
    }

    private static void refusedTold(WordSupper x, boolean byKind) {
        String call = byKind ? "26: kinds " : "25: fits ";
        Check.due(call + "by sheet 4", byKind ? x.kinds(4, 0) : x.fits(4, 0), Check.BEYOND);
        Check.due(call + "by sheet -1", byKind ? x.kinds(-1, 9) : x.fits(-1, 9), Check.BEYOND);
        Check.due(call + "by no sheet", byKind ? x.kinds(3, 0) : x.fits(3, 0), Check.MISSING);
        Check.due(call + "by no sheet of no speaker", byKind ? x.kinds(3, 9) : x.fits(3, 9), Check.MISSING);
        Check.due(call + "of no speaker", byKind ? x.kinds(0, 1) : x.fits(0, 1), Check.BEYOND);
        Check.due(call + "of speaker -1", byKind ? x.kinds(0, -1) : x.fits(0, -1), Check.BEYOND);
    }

    private static void promise26() {
        WordSupper x = Check.told("cook plate 0 0 10");
        // One day: speaker 8, lawyer 10, child 11, saint 7, reader 10, cook 8, liar 11.
        toldBy(x, true, 127);
        toldBy(x, true, 127, 10);
        toldBy(x, true, 0, 9);
        toldBy(x, true, 0b0100001, 10, 8);
        toldBy(x, true, 0b0010010, 10, 10);
        toldBy(x, true, 0b1000100, 10, 11);
        toldBy(x, true, 0b0001000, -1, 7);
        toldBy(x, true, 127, -1, -1);
        toldBy(x, true, 0, -1, -2);
        Check.due("26: its kind stays", x.of(0, 0), 5);
        refusedTold(x, true);
    }

    private static void promise27() {
        WordSupper x = Check.told("cook");
        // The draws are 4310654, 9862832, 2589156, 12872603: 14 hard words, then 2 creams.
        Check.due("27: one day", x.talk(1), 12);
        Check.due("27: fourteen hard", x.listed(2), 14);
        Check.due("27: the day", x.now(0), 1);
        Check.due("27: z", x.count(6), -1770082073);
        Check.due("27: another day", x.talk(1), 10);
        Check.due("27: two creams", x.listed(0), 2);
        Check.due("27: what was told stays", x.listed(2), 14);
        Check.due("27: z then", x.count(6), -999580867);
        WordSupper y = Check.told("cook");
        Check.due("27: both days at once", y.talk(2), 10);
        Check.due("27: two days", y.now(0), 2);
        Check.due("27: four draws", y.seed(0), -999580867);
        Check.due("27: talk 0", y.talk(0), Check.BEYOND);
        Check.due("27: talk 21", y.talk(21), Check.BEYOND);
        Check.due("27: talk -1", y.talk(-1), Check.BEYOND);
        y.talk(20);
        Check.due("27: twenty days", y.now(0), 22);
    }

    private static void promise28() {
        WordSupper x = Check.told("speaker;lawyer;child;saint;reader;cook;liar");
        int[] above = {5, 5, 2, 5, 5, 5, 1};
        int[] below = {6, 6, 3, 6, 6, 6, 1};
        for (int kind = 0; kind < 7; kind++) {
            long up = 1;
            long down = 1;
            for (int n = 0; n <= 23; n++) {
                Check.due("28: above, kind " + kind + ", " + n + " words", x.odds(kind, n, 0), up);
                Check.due("28: below, kind " + kind + ", " + n + " words", x.odds(kind, n, 1), down);
                up *= above[kind];
                down *= below[kind];
            }
        }
        Check.due("28: 6 to the 23rd", x.odds(0, 23, 1), 789730223053602816L);
        Check.due("28: -1 words", x.odds(0, -1, 0), Check.BEYOND);
        Check.due("28: 24 words", x.odds(0, 24, 0), Check.BEYOND);
        Check.due("28: what 2", x.odds(0, 1, 2), Check.BEYOND);
        Check.due("28: what -1", x.odds(0, 1, -1), Check.BEYOND);
        Check.due("28: no speaker", x.odds(7, 1, 0), Check.BEYOND);
        Check.due("28: speaker -1", x.odds(-1, 1, 0), Check.BEYOND);
        Check.due("28: z stays", x.count(6), 1);
    }

    private static void promise29() {
        WordSupper x = new WordSupper();
        Check.due("29: first", x.seed(-1000001), 1);
        Check.due("29: may be any", x.seed(Integer.MIN_VALUE), -1000001);
        Check.due("29: count tells it", x.count(6), Integer.MIN_VALUE);
        Check.due("29: and seed", x.seed(1), Integer.MIN_VALUE);
        Check.due("29: no finding", x.status(-1), 0);
    }
}
