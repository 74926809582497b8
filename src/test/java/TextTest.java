/** Promises 30 to 32: the tape and its texts. */
final class TextTest {
    private TextTest() {
    }

    static void run() {
        promise30();
        promise31();
        items();
        faults();
        blanks();
        faultsChangeNothing();
    }

    private static void promise30() {
        WordSupper x = new WordSupper();
        Check.due("30: n 0", x.feed(1, 0), Check.BEYOND);
        Check.due("30: n 5", x.feed(1, 5), Check.BEYOND);
        Check.due("30: n -1", x.feed(1, -1), Check.BEYOND);
        Check.due("30: nothing came", x.count(5), 0);
        Check.due("30: the highest first", x.feed(0x636f6f6b, 4), 4);
        Check.due("30: that is a cook", x.text(), 1);
        Check.due("30: the lowest bytes", x.feed(0xff00006c, 1), 1);
        Check.due("30: two", x.feed(0x12346961, 2), 3);
        Check.due("30: three", x.feed(0x72203b63, 3), 6);
        Check.due("30: four", x.feed(0x68696c64, 4), 10);
        Check.due("30: lia ;child", x.text(), -1);
        for (int i = 1; i <= 30; i++) {
            Check.due("30: up to 120", x.feed(0x20202020, 4), 4 * i);
        }
        Check.due("30: full", x.feed(0, 1), Check.FULL);
        Check.due("30: beyond ahead of full", x.feed(0, 0), Check.BEYOND);
        Check.due("30: 120 stay", x.wipe(), 120);
        for (int i = 0; i < 118; i++) {
            x.feed(' ', 1);
        }
        Check.due("30: three don't go in", x.feed(0, 3), Check.FULL);
        Check.due("30: two go in", x.feed(0, 2), 120);
    }

    private static void promise31() {
        WordSupper x = new WordSupper();
        Check.due("31: empty", x.wipe(), 0);
        Check.feed(x, "cook;");
        Check.due("31: five", x.wipe(), 5);
        Check.due("31: none then", x.count(5), 0);
        Check.due("31: what comes next", Check.read(x, "liar"), 1);
        Check.due("31: a liar alone", x.of(0, 0), 6);
    }

    private static void items() {
        WordSupper x = new WordSupper();
        Check.due("32: two items", Check.read(x, "speaker;lawyer loves 0"), 2);
        Check.due("32: more", Check.read(x, "child fat 0;saint fat 99;reader loves 3 fat 7 plate 1"), 3);
        Check.due("32: plates", Check.read(x, "cook plate 1 2 3 4 5 999;liar plate 0 0 0;speaker loves 6 plate 999"), 3);
        Check.due("32: no speakers", Check.read(x, "list 0 20;list 5 0;list 3 7;vinegar 0"), 4);
        Check.due("32: the tape is empty then", x.count(5), 0);
        int[][] due = {
            {0, -1, 50, 0}, {1, 0, 50, 0}, {2, -1, 0, 0}, {3, -1, 99, 0},
            {4, 3, 7, 1}, {5, -1, 50, 1014}, {6, -1, 50, 0}, {0, 6, 50, 999},
        };
        for (int speaker = 0; speaker < 8; speaker++) {
            for (int what = 0; what < 3; what++) {
                Check.due("32: of " + speaker + ", " + what, x.of(speaker, what), due[speaker][what]);
            }
            Check.due("32: plate of " + speaker, x.of(speaker, 5), due[speaker][3]);
            Check.due("32: ate of " + speaker, x.of(speaker, 3), 0);
        }
        int[] plate = {1, 2, 3, 4, 5, 999};
        for (int taste = 0; taste < 6; taste++) {
            Check.due("32: the cook's plate", x.plate(5, taste), plate[taste]);
        }
        Check.due("32: list 0", x.listed(0), 20);
        Check.due("32: list 3", x.listed(3), 7);
        Check.due("32: vinegar", x.vinegar(0), 0);
        WordSupper y = new WordSupper();
        Check.due("32: item by item", Check.read(y, "vinegar 3;vinegar 9;list 1 4;list 1 2"), 4);
        Check.due("32: the last list holds", y.listed(1), 2);
        Check.due("32: the last vinegar holds", y.vinegar(0), 9);
        Check.due("32: loves one of the same text", Check.read(y, "cook;cook;liar loves 1"), 3);
        Check.due("32: whom", y.of(2, 1), 1);
    }

    private static void faults() {
        Object[][] rows = {
            {"", 0}, {"   ", 3}, {";", 0}, {"monk", 0}, {"  monk", 2}, {"12", 0}, {"#", 0}, {"Cook", 0}, {"cookS", 4},
            {"cooks", 0}, {"coo", 0}, {"look", 0}, {"cookz", 0}, {"az", 0}, {"cook;", 5}, {"cook ; ", 7}, {"cook;;cook", 5}, {"cook cook", 5}, {"cook 1", 5},
            {"cook loves", 10}, {"cook loves ;", 11}, {"cook loves 0", 11}, {"cook;liar loves 1", 16}, {"cook;liar loves 2", 16},
            {"cook;liar loves fat", 16}, {"cook loves -1", 11}, {"cook fat", 8}, {"cook fat 100", 9}, {"cook fat plate", 9},
            {"cook fat 1 fat 1", 11}, {"cook fat 1 loves 0", 11}, {"cook plate 1 fat 1", 13}, {"cook plate", 10},
            {"cook plate ", 11}, {"cook plate;", 10}, {"cook plate 1000", 11}, {"cook plate 1 1000", 13},
            {"cook plate 1 2 3 4 5 6 7", 23}, {"cook plate 99999999999999", 11}, {"cook plate 4294967297", 11},
            {"cook plate 1 x", 13}, {"cook plate 1 plate 1", 13}, {"list", 4}, {"list 6 1", 5}, {"list 0", 6}, {"list 0 21", 7},
            {"list 0 1 2", 9}, {"list x", 5}, {"list 0;", 6}, {"vinegar", 7}, {"vinegar 10", 8}, {"vinegar 3 3", 10},
            {"vinegar ;", 8}, {"vinegar 1,vinegar 2", 9}, {"cook\tfat 1", 4}, {"cook\n", 4}, {"cook\u00e9", 4}, {"cook\u0000", 4},
            {"loves 0", 0}, {"fat 1", 0}, {"plate 1", 0}, {"cook;monk loves 0", 5}, {"cook;cook fat 1;liar fat 1 1", 27},
            {"cook;cook;cook;cook;cook;cook;cook;cook;cook", 40}, {"saint loves0", 11}, {"listen", 0}, {"cook plate 1 2 #", 15},
        };
        for (Object[] row : rows) {
            String text = (String) row[0];
            WordSupper x = new WordSupper();
            Check.due("32: the fault of \"" + text + "\"", Check.read(x, text), -1 - (Integer) row[1]);
            Check.due("32: no finding with \"" + text + "\"", x.status(-1), 0);
            Check.due("32: nobody comes by \"" + text + "\"", x.count(1), 0);
            Check.due("32: the tape is empty behind \"" + text + "\"", x.count(5), 0);
        }
    }

    /** Tokens are as long as can be; blanks may stand between these, and need not. */
    private static void blanks() {
        Object[][] rows = {
            {"cook", 1}, {"  cook  ", 1}, {" cook  ;  liar ", 2}, {"cook;liar loves0fat99plate1 2 3", 2},
            {"list 0 1;vinegar9", 2}, {"list5 20", 1}, {"cook plate 000000000000001 0999", 1}, {"vinegar 09", 1},
            {"cook plate1 2;cook", 2},
        };
        for (Object[] row : rows) {
            Check.due("32: \"" + row[0] + "\"", Check.read(new WordSupper(), (String) row[0]), (Integer) row[1]);
        }
        WordSupper x = Check.told("cook plate 000000000000001 0999");
        Check.due("32: zeros ahead", x.plate(0, 0), 1);
        Check.due("32: 999 behind a zero", x.plate(0, 1), 999);
        StringBuilder full = new StringBuilder("vinegar 5");
        while (full.length() < 119) {
            full.append(';').append("vinegar ").append(full.length() % 10);
        }
        Check.due("32: a full tape", Check.read(new WordSupper(), full.toString()), 12);
    }

    private static void faultsChangeNothing() {
        WordSupper x = Check.told("cook fat 3 plate 1 2 3;list 1 2;vinegar 4");
        String before = Check.seen(x);
        Check.due("32: a fault at the end", Check.read(x, "vinegar 1;list 1 1;liar loves 0;speaker;x"), -41);
        Check.due("32: nothing changed", Check.seen(x).equals(before) ? 1 : 0, 1);
        Check.due("32: who comes next is new", Check.read(x, "saint"), 1);
        Check.due("32: its kind", x.of(1, 0), 3);
        Check.due("32: it loves nobody", x.of(1, 1), -1);
    }
}
