/** Promises 19 to 24: what to do. */
final class CounselTest {
    private CounselTest() {
    }

    static void run() {
        promise19();
        promise20();
        promise21();
        promise22();
        promise23();
        promise24();
    }

    /** Some acts take a speaker and days up to a number: what these refuse. */
    private static void refused(String call, int noSpeaker, int before, int tooFew, int tooMany) {
        Check.due(call + " of no speaker", noSpeaker, Check.BEYOND);
        Check.due(call + " of speaker -1", before, Check.BEYOND);
        Check.due(call + " behind -1 days", tooFew, Check.BEYOND);
        Check.due(call + " behind too many days", tooMany, Check.BEYOND);
    }

    private static void promise19() {
        WordSupper x = Check.told("cook;cook plate 5;cook plate 100");
        Check.due("19: the fuller plate", x.love(0, 1), 2);
        x.serve(1, 0, 100);
        Check.due("19: of two the least", x.love(0, 1), 1);
        Check.due("19: behind no days, another one", x.love(0, 0), 1);
        Check.due("19: behind no days, not itself", x.love(1, 0), 0);
        Check.due("19: forty days", x.love(0, 40), 1);
        Check.due("19: nothing changes", x.of(0, 1), -1);
        refused("19: love", x.love(3, 1), x.love(-1, 1), x.love(0, -1), x.love(0, 41));
        WordSupper y = Check.told("cook");
        Check.due("19: alone", y.love(0, 3), -1);
        // The lawyer who eats along from the cook's plate grows fat, and has a bite less on the second day.
        WordSupper z = Check.told("lawyer fat 99 plate 0 3;cook plate 3");
        Check.due("19: another one ahead of nobody", z.love(0, 9), 1);
    }

    private static void promise20() {
        WordSupper x = Check.told("cook plate 0 0 10");
        Check.due("20: a saint for what is hard", x.kindFor(0, 1), 3);
        Check.due("20: behind no days the least", x.kindFor(0, 0), 0);
        Check.due("20: its kind stays", x.of(0, 0), 5);
        WordSupper y = Check.told("cook fat 0 plate 0 0 0 0 5");
        // A liar who says cream, retorts and a lie on even days has six bites left on the first, none of these for a lie.
        Check.due("20: lies, one day", y.kindFor(0, 1), 0);
        y.serve(0, 4, 0);
        y.serve(0, 0, 999);
        Check.due("20: cream", y.kindFor(0, 1), 5);
        y.vinegar(0);
        Check.due("20: cream without vinegar, the least", y.kindFor(0, 1), 0);
        y.serve(0, 0, 0);
        y.serve(0, 1, 40);
        y.serve(0, 4, 1);
        Check.due("20: retorts", y.kindFor(0, 2), 1);
        refused("20: kindFor", y.kindFor(1, 1), y.kindFor(-1, 1), y.kindFor(0, -1), y.kindFor(0, 41));
        Check.due("20: behind forty days", y.kindFor(0, 40) < 7 ? 1 : 0, 1);
    }

    private static void promise21() {
        WordSupper x = Check.told("speaker plate 0 2;cook plate 0 5;cook plate 0 0 0 0 1;cook");
        // Eleven bites beyond its cream for two retorts of 3 and the vinegar.
        Check.due("21: as much as goes down", x.vinegarFor(0, 1), 2);
        Check.due("21: two days", x.vinegarFor(0, 2), 8);
        Check.due("21: a cook eats by vinegar", x.vinegarFor(1, 1), 9);
        Check.due("21: never", x.vinegarFor(2, 40), Check.NONE);
        Check.due("21: clean now", x.vinegarFor(3, 0), 9);
        Check.due("21: not clean now", x.vinegarFor(0, 0), Check.NONE);
        Check.due("21: the vinegar stays", x.vinegar(1), 1);
        refused("21: vinegarFor", x.vinegarFor(4, 1), x.vinegarFor(-1, 1), x.vinegarFor(0, -1), x.vinegarFor(0, 41));
    }

    private static void promise22() {
        WordSupper x = Check.told("speaker;list 4 3;list 0 5");
        Check.due("22: no lies", x.unsay(1), 4);
        Check.due("22: behind no days the least", x.unsay(0), 0);
        Check.due("22: nothing is said of the others", x.listed(4), 3);
        x.list(2, 20);
        Check.due("22: nothing hard", x.unsay(1), 2);
        Check.due("22: forty days", x.unsay(40), 2);
        Check.due("22: -1 days", x.unsay(-1), Check.BEYOND);
        Check.due("22: 41 days", x.unsay(41), Check.BEYOND);
        Check.due("22: with nobody", new WordSupper().unsay(9), 0);
    }

    private static void promise23() {
        WordSupper x = Check.told("cook plate 35;speaker loves 0;speaker loves 0");
        int[][] rows = {{35, 0}, {36, 2}, {37, 6}, {38, Check.NONE}};
        for (int[] row : rows) {
            x.serve(0, 0, row[0]);
            Check.due("23: silence before " + row[0] + " creams", x.silence(0, 1), row[1]);
        }
        WordSupper y = Check.told("speaker;list 4 5;cook");
        Check.due("23: silence of the one who says the list", y.silence(0, 1), 1);
        Check.due("23: behind no days", y.silence(0, 0), 0);
        Check.due("23: another one's list", y.silence(1, 1), 0);
        Check.due("23: that one's list on the second day", y.silence(1, 2), 2);
        Check.due("23: twelve days", y.silence(0, 12), 1);
        Check.due("23: nothing changes", y.now(0), 0);
        refused("23: silence", y.silence(2, 1), y.silence(-1, 1), y.silence(0, -1), y.silence(0, 13));
        y.serve(1, 4, 1);
        Check.due("23: never", y.silence(1, 12), Check.NONE);
        WordSupper z = Check.told("cook plate 15;speaker;cook plate 10;speaker loves 0");
        Check.due("23: fewest", z.silence(0, 1), 0);
        z.serve(0, 0, 25);
        Check.due("23: one of the number 3", z.silence(0, 1), 8);
    }

    private static void promise24() {
        WordSupper x = Check.told("cook;child plate 0 0 10;cook");
        Check.due("24: of two pairs the least", x.swapFor(1), 1);
        Check.due("24: behind no days", x.swapFor(0), 1);
        Check.due("24: plates stay", x.plate(1, 2), 10);
        WordSupper y = Check.told("child;child plate 0 0 10;cook");
        Check.due("24: the child's plate to the cook", y.swapFor(1), 10);
        Check.due("24: twenty days", y.swapFor(20), 10);
        Check.due("24: -1 days", y.swapFor(-1), Check.BEYOND);
        Check.due("24: 21 days", y.swapFor(21), Check.BEYOND);
        // Every change makes it worse; one is told all the same.
        WordSupper z = Check.told("cook plate 13;child plate 5");
        Check.due("24: two", z.swapFor(1), 1);
        WordSupper one = Check.told("cook");
        Check.due("24: one", one.swapFor(1), Check.NONE);
        Check.due("24: one, 21 days", one.swapFor(21), Check.BEYOND);
        Check.due("24: nobody", new WordSupper().swapFor(0), Check.NONE);
        WordSupper eight = Check.told("child;child;child;child;child;child;child plate 0 0 9;cook");
        Check.due("24: the last pair", eight.swapFor(1), 55);
    }
}
