/** Promises 1 to 11: a new object, the table, the speakers. */
final class TableTest {
    private static final int[] WRONG_SPEAKERS = {-1, 1, 8, Integer.MIN_VALUE, Integer.MAX_VALUE};
    private static final int[] WRONG_TASTES = {-1, 6, Integer.MIN_VALUE, Integer.MAX_VALUE};

    private TableTest() {
    }

    static void run() {
        promise1();
        promise2();
        promises3And4();
        promise5();
        promise6();
        promise7();
        promises8And9();
        promise10();
        promise11();
    }

    private static void promise1() {
        WordSupper x = new WordSupper();
        for (int what = 0; what <= 7; what++) {
            Check.due("1: new count " + what, x.count(what), what == 6 ? 1 : 0);
        }
        for (int taste = 0; taste < 6; taste++) {
            Check.due("1: new listed " + taste, x.listed(taste), 0);
        }
        Check.due("1: new status", x.status(-1), 0);
        Check.due("1: new vinegar", x.vinegar(1), 1);
        Check.due("1: new tape", x.wipe(), 0);
        Check.due("1: no speaker", x.of(0, 0), Check.BEYOND);
        Check.due("1: no image", x.undo(), Check.NONE);
        Check.due("1: no image to tear", x.tear(), 0);
        for (int spot = 0; spot < 10; spot++) {
            Check.due("1: new spot " + spot, x.as(spot, 0), Check.MISSING);
        }
        for (int s = 0; s < 4; s++) {
            Check.due("1: new sheet " + s, x.write(s, 0, 0), Check.MISSING);
        }
    }

    private static void promise2() {
        WordSupper x = new WordSupper();
        Check.due("2: vinegar 9", x.vinegar(9), 1);
        Check.due("2: vinegar 0", x.vinegar(0), 9);
        Check.due("2: vinegar -1", x.vinegar(-1), Check.BEYOND);
        Check.due("2: vinegar 10", x.vinegar(10), Check.BEYOND);
        Check.due("2: vinegar stays", x.vinegar(4), 0);
    }

    private static void promises3And4() {
        WordSupper x = new WordSupper();
        for (int taste = 0; taste < 6; taste++) {
            Check.due("3: list " + taste, x.list(taste, 10 + taste), 0);
        }
        for (int taste = 0; taste < 6; taste++) {
            Check.due("4: listed " + taste, x.listed(taste), 10 + taste);
        }
        Check.due("3: list 20", x.list(5, 20), 15);
        Check.due("3: list 0", x.list(5, 0), 20);
        Check.due("3: list 21", x.list(5, 21), Check.BEYOND);
        Check.due("3: list -1", x.list(5, -1), Check.BEYOND);
        Check.due("4: listed stays", x.listed(5), 0);
        for (int taste : WRONG_TASTES) {
            Check.due("3: list of taste " + taste, x.list(taste, 0), Check.BEYOND);
            Check.due("4: listed of taste " + taste, x.listed(taste), Check.BEYOND);
        }
    }

    private static void promise5() {
        WordSupper x = new WordSupper();
        Check.due("5: kind -1", x.speaker(-1), Check.BEYOND);
        Check.due("5: kind 7", x.speaker(7), Check.BEYOND);
        for (int i = 0; i < 8; i++) {
            Check.due("5: speaker " + i, x.speaker(i % 7), i);
            Check.due("5: its kind", x.of(i, 0), i % 7);
            Check.due("5: it loves", x.of(i, 1), -1);
            Check.due("5: its fat", x.of(i, 2), 50);
            Check.due("5: it ate", x.of(i, 3), 0);
            Check.due("5: its plate", x.of(i, 5), 0);
        }
        Check.due("5: a 9th", x.speaker(0), Check.FULL);
        Check.due("5: a 9th of no kind", x.speaker(7), Check.BEYOND);
        Check.due("5: eight stay", x.count(1), 8);
    }

    private static void promise6() {
        WordSupper x = Check.told("cook;reader loves 0 fat 33 plate 1 0 2 0 4 5");
        x.change(1, 3, 77);
        int[] due = {4, 0, 33, 77, 10, 12, 0b110101};
        for (int what = 0; what <= 6; what++) {
            Check.due("6: of " + what, x.of(1, what), due[what]);
        }
        Check.due("6: of -1", x.of(1, -1), Check.BEYOND);
        Check.due("6: of 7", x.of(1, 7), Check.BEYOND);
        Check.due("6: of no speaker", x.of(2, 0), Check.BEYOND);
        Check.due("6: of speaker -1", x.of(-1, 0), Check.BEYOND);
        appetites();
    }

    /** The appetites by kinds, fat, vinegar and whether the plate is clean. */
    private static void appetites() {
        WordSupper x = Check.told("speaker;lawyer;child;saint;reader;cook;liar");
        int[] clean = {12, 7, 6, 26, 30, 13, 4};
        int[] full = {12, 7, 6, 6, 10, 13, 4};
        for (int kind = 0; kind < 7; kind++) {
            Check.due("6: appetite before a clean plate, kind " + kind, x.of(kind, 4), clean[kind]);
            x.serve(kind, 4, 1);
            Check.due("6: appetite before a plate, kind " + kind, x.of(kind, 4), full[kind]);
        }
        x.vinegar(9);
        Check.due("6: a cook's appetite with vinegar 9", x.of(5, 4), 21);
        Check.due("6: a speaker's appetite with vinegar 9", x.of(0, 4), 12);
        int[][] byFat = {{0, 12, 9}, {9, 12, 9}, {10, 11, 8}, {59, 7, 4}, {89, 4, 1}, {90, 3, 0}, {99, 3, 0}};
        for (int[] row : byFat) {
            x.change(1, 2, row[0]);
            x.change(6, 2, row[0]);
            x.change(0, 2, row[0]);
            Check.due("6: a lawyer's appetite, fat " + row[0], x.of(1, 4), row[1]);
            Check.due("6: a liar's appetite, fat " + row[0], x.of(6, 4), row[2]);
            Check.due("6: a speaker's appetite, fat " + row[0], x.of(0, 4), 12);
        }
    }

    private static void promise7() {
        WordSupper x = Check.told("speaker;speaker");
        int[][] rows = {
            {0, 6, 0}, {0, 0, 6}, {0, 7, Check.BEYOND}, {0, -1, Check.BEYOND},
            {1, 0, -1}, {1, -1, 0}, {1, 1, Check.BEYOND}, {1, 2, Check.BEYOND}, {1, -2, Check.BEYOND},
            {2, 99, 50}, {2, 0, 99}, {2, 100, Check.BEYOND}, {2, -1, Check.BEYOND},
            {3, 99999, 0}, {3, 0, 99999}, {3, 100000, Check.BEYOND}, {3, -1, Check.BEYOND},
            {4, 0, Check.BEYOND}, {-1, 0, Check.BEYOND}, {7, 0, Check.BEYOND},
        };
        for (int[] row : rows) {
            Check.due("7: change " + row[0] + " to " + row[1], x.change(1, row[0], row[1]), row[2]);
        }
        int[] stays = {0, -1, 0, 0};
        for (int what = 0; what <= 3; what++) {
            Check.due("7: of " + what, x.of(1, what), stays[what]);
        }
        Check.due("7: of the other one", x.of(0, 2), 50);
        Check.due("7: no speaker", x.change(2, 2, 1), Check.BEYOND);
        Check.due("7: speaker -1", x.change(-1, 2, 1), Check.BEYOND);
    }

    private static void promises8And9() {
        WordSupper x = Check.told("cook");
        for (int taste = 0; taste < 6; taste++) {
            Check.due("8: serve " + taste, x.serve(0, taste, 900 + taste), 0);
        }
        for (int taste = 0; taste < 6; taste++) {
            Check.due("9: plate " + taste, x.plate(0, taste), 900 + taste);
        }
        Check.due("8: serve 999", x.serve(0, 0, 999), 900);
        Check.due("8: serve 0", x.serve(0, 0, 0), 999);
        Check.due("8: serve 1000", x.serve(0, 0, 1000), Check.BEYOND);
        Check.due("8: serve -1", x.serve(0, 0, -1), Check.BEYOND);
        Check.due("9: plate stays", x.plate(0, 0), 0);
        for (int speaker : WRONG_SPEAKERS) {
            Check.due("8: serve speaker " + speaker, x.serve(speaker, 0, 0), Check.BEYOND);
            Check.due("9: plate of speaker " + speaker, x.plate(speaker, 0), Check.BEYOND);
        }
        for (int taste : WRONG_TASTES) {
            Check.due("8: serve taste " + taste, x.serve(0, taste, 0), Check.BEYOND);
            Check.due("9: plate of taste " + taste, x.plate(0, taste), Check.BEYOND);
        }
    }

    private static void promise10() {
        WordSupper x = Check.told("speaker;lawyer;child;saint;reader;cook;liar");
        for (int vinegar = 0; vinegar <= 9; vinegar++) {
            x.vinegar(vinegar);
            int hot = 3 + vinegar;
            int[][] due = {
                {1, hot, 5, 4, -1, 0},
                {1, 1, 5, 4, -1, 0},
                {1, hot, -1, 4, -1, 0},
                {1, hot, 2, 4, -1, 0},
                {2, hot + 1, 3, 5, -1, 1},
                {1, 3, 5, 4, -1, 0},
                {1, 1, 5, 4, 9, 0},
            };
            for (int kind = 0; kind < 7; kind++) {
                for (int taste = 0; taste < 6; taste++) {
                    String call = "10: kind " + kind + " chews " + taste + " with " + vinegar;
                    Check.due(call, x.chews(kind, taste), due[kind][taste]);
                }
            }
        }
        Check.due("10: chews of no speaker", x.chews(7, 0), Check.BEYOND);
        Check.due("10: chews of speaker -1", x.chews(-1, 0), Check.BEYOND);
        Check.due("10: chews of taste 6", x.chews(0, 6), Check.BEYOND);
        Check.due("10: chews of taste -1", x.chews(0, -1), Check.BEYOND);
    }

    /** What is told by the list is no talk. */
    private static WordSupper talksOn(int day) {
        WordSupper x = Check.told("speaker;lawyer;child;saint;reader;cook;liar;speaker");
        x.list(day % 6, 7);
        if (day > 0) {
            x.go(day);
        }
        return x;
    }

    private static void promise11() {
        for (int day = 0; day <= 42; day++) {
            WordSupper x = talksOn(day);
            int[][] due = {
                {1, 0, 0, 0, 0, 0},
                {1, 2, 0, 0, 0, 0},
                {1, 0, day % 3 == 0 ? 1 : 0, 0, 0, 0},
                {0, 0, 0, 0, 0, day == 5 || day == 12 || day == 19 || day == 26 || day == 33 || day == 40 ? 1 : 0},
                {0, 0, 0, 3, 0, 0},
                {0, 0, 0, 0, 0, 0},
                {1, 2, 0, 0, day % 2 == 0 ? 1 : 0, 0},
            };
            for (int kind = 0; kind < 7; kind++) {
                for (int taste = 0; taste < 6; taste++) {
                    String call = "11: kind " + kind + " talks " + taste + " on day " + day;
                    Check.due(call, x.talks(kind, taste), due[kind][taste]);
                }
            }
        }
        WordSupper x = talksOn(1);
        Check.due("11: talks of no speaker", x.talks(8, 0), Check.BEYOND);
        Check.due("11: talks of speaker -1", x.talks(-1, 0), Check.BEYOND);
        Check.due("11: talks of taste 6", x.talks(0, 6), Check.BEYOND);
        Check.due("11: talks of taste -1", x.talks(0, -1), Check.BEYOND);
    }
}
