/** Promises 33 to 39: spots and sheets. */
final class SheetTest {
    private SheetTest() {
    }

    static void run() {
        promises33And34();
        promise35();
        promise36();
        promise37();
        overlaps();
        promise38();
        promise39();
    }

    private static void promises33And34() {
        WordSupper x = Check.told("speaker;lawyer;child;saint;reader;cook;liar");
        Check.due("33: hold", x.hold(0, 6), 1);
        Check.due("33: hold in 9", x.hold(9, 0), 1);
        Check.due("33: two hold", x.count(7), 2);
        Check.due("33: nothing", x.hold(0, -1), 1);
        Check.due("33: one holds", x.count(7), 1);
        Check.due("33: nothing again", x.hold(0, -1), 1);
        Check.due("33: spot 10", x.hold(10, 0), Check.BEYOND);
        Check.due("33: spot -1", x.hold(-1, 0), Check.BEYOND);
        Check.due("33: no speaker", x.hold(0, 7), Check.BEYOND);
        Check.due("33: speaker -2", x.hold(0, -2), Check.BEYOND);
        Check.due("34: spot 10", x.as(10, 0), Check.BEYOND);
        Check.due("34: spot -1", x.as(-1, 0), Check.BEYOND);
        Check.due("34: kind 7", x.as(0, 7), Check.BEYOND);
        Check.due("34: kind -1", x.as(0, -1), Check.BEYOND);
        Check.due("34: nothing", x.as(0, 0), Check.MISSING);
        // By kinds, of which kinds it is: its own and those that it is under.
        int[] sets = {0b0000001, 0b0000011, 0b0000101, 0b0001101, 0b0011101, 0b0100001, 0b1000011};
        for (int speaker = 0; speaker < 7; speaker++) {
            x.hold(3, speaker);
            for (int kind = 0; kind < 7; kind++) {
                int due = (sets[speaker] >> kind & 1) == 1 ? speaker : Check.KIND;
                Check.due("34: " + speaker + " as " + kind, x.as(3, kind), due);
            }
        }
        x.hold(3, 0);
        x.change(0, 0, 4);
        Check.due("34: a changed kind", x.as(3, 2), 0);
    }

    private static void promise35() {
        WordSupper x = new WordSupper();
        int[][] rows = {
            {0, 8, 3, 3}, {1, 16, 40, 40}, {2, 32, 0, 0}, {3, 0, 40, 0}, {0, 0, 7, 0},
            {4, 8, 1, Check.BEYOND}, {-1, 8, 1, Check.BEYOND}, {4, 8, -1, Check.BEYOND},
            {0, 7, 1, Check.BEYOND}, {0, 64, 1, Check.BEYOND}, {0, -8, -1, Check.BEYOND}, {0, 1, 41, Check.BEYOND},
            {0, 8, -1, Check.SIZE}, {0, 0, -1, Check.SIZE}, {0, 32, Integer.MIN_VALUE, Check.SIZE},
            {0, 8, 41, Check.BEYOND}, {0, 0, 41, Check.BEYOND}, {0, 16, Integer.MAX_VALUE, Check.BEYOND},
        };
        for (int[] row : rows) {
            String call = "35: sheet " + row[0] + " of " + row[2] + " numbers of " + row[1] + " bits";
            Check.due(call, x.sheet(row[0], row[1], row[2]), row[3]);
        }
        Check.due("35: a sheet that is missing again", x.write(0, 0, 0), Check.MISSING);
        Check.due("35: an empty sheet is there", x.write(2, 0, 0), Check.BEYOND);
        x.sheet(0, 32, 2);
        x.write(0, 0, 7);
        x.write(0, 1, 5);
        x.sheet(0, 32, -1);
        Check.due("35: findings change nothing", x.judge(0), 1);
        x.sheet(0, 32, 2);
        Check.due("35: all are 0", x.load(0), 2);
        Check.due("35: the first", x.listed(0), 0);
        Check.due("35: the second, too", x.listed(1), 0);
    }

    private static void promise36() {
        WordSupper x = Check.told("cook");
        // What a number is shows by judge: the plate tells it.
        int[][] rows = {
            {8, 127, 127}, {8, 256 + 5, 5}, {8, -250, 6}, {16, 300, 300}, {16, 65536 + 999, 999}, {32, 999, 999},
        };
        for (int[] row : rows) {
            x.sheet(0, row[0], 1);
            Check.due("36: write " + row[1], x.write(0, 0, row[1]), 1);
            x.serve(0, 0, row[2]);
            Check.due("36: " + row[1] + " of " + row[0] + " bits", x.judge(0), 0);
        }
        int[][] signs = {
            {8, 128, 1}, {8, 255, 63}, {8, -1, 63}, {16, 255, 0}, {16, 65535, 63}, {16, 32768, 0}, {32, 65535, 0}, {32, -1, 63},
        };
        x.serve(0, 0, 0);
        for (int[] row : signs) {
            x.sheet(0, row[0], 1);
            x.write(0, 0, row[1]);
            Check.due("36: any by " + row[1] + " of " + row[0] + " bits", x.fits(0, 0), row[2] == 63 ? 63 : 0);
        }
        x.sheet(1, 8, 40);
        Check.due("36: number 39", x.write(1, 39, 1), 1);
        Check.due("36: number 40", x.write(1, 40, 1), Check.BEYOND);
        Check.due("36: number -1", x.write(1, -1, 1), Check.BEYOND);
        Check.due("36: sheet 4", x.write(4, 0, 1), Check.BEYOND);
        Check.due("36: sheet -1", x.write(-1, 0, 1), Check.BEYOND);
        Check.due("36: no sheet", x.write(2, 0, 1), Check.MISSING);
        Check.due("36: no sheet, no number", x.write(2, -1, 1), Check.MISSING);
    }

    private static void promise37() {
        WordSupper x = new WordSupper();
        Check.lay(x, 0, 1, 2, 3, 4);
        Check.lay(x, 1, 9, 9, 9);
        x.sheet(2, 16, 4);
        int[][] rows = {
            {4, 0, 1, 0, 1, Check.BEYOND}, {0, 0, 4, 0, 1, Check.BEYOND}, {-1, 0, 3, 0, 1, Check.BEYOND}, {3, 0, -1, 0, 1, Check.BEYOND},
            {3, 0, 0, 0, -1, Check.MISSING}, {0, 0, 3, 0, -1, Check.MISSING}, {0, -1, 2, 0, 1, Check.KIND}, {2, 0, 0, 0, 9, Check.KIND},
            {0, -1, 1, 0, 1, Check.BEYOND}, {0, 0, 1, -1, 1, Check.BEYOND}, {0, 0, 1, 0, -1, Check.BEYOND},
            {0, 3, 1, 0, 2, Check.BEYOND}, {0, 0, 1, 2, 2, Check.BEYOND}, {0, 5, 1, 0, 0, Check.BEYOND}, {0, 0, 1, 4, 0, Check.BEYOND},
            {0, Integer.MAX_VALUE, 1, 0, 1, Check.BEYOND}, {0, 1, 1, 0, Integer.MAX_VALUE, Check.BEYOND},
            {0, 0, 1, Integer.MAX_VALUE, Integer.MAX_VALUE, Check.BEYOND}, {0, 0, 1, Integer.MIN_VALUE, 1, Check.BEYOND},
            {0, 4, 1, 3, 0, 0}, {0, 0, 1, 0, 0, 0}, {0, 2, 1, 1, 2, 2}, {0, 0, 0, 0, 4, 4},
        };
        for (int[] row : rows) {
            String call = "37: copy " + java.util.Arrays.toString(row);
            Check.due(call, x.copy(row[0], row[1], row[2], row[3], row[4]), row[5]);
        }
        shows(x, 0, 1, 2, 3, 4);
        shows(x, 1, 9, 3, 4);
    }

    /** Told by load what the first numbers (0 to 20) of a sheet are. */
    private static void shows(WordSupper x, int s, int... numbers) {
        Check.due("37: how many numbers", x.load(s), numbers.length);
        for (int i = 0; i < numbers.length; i++) {
            Check.due("37: number " + i + " of sheet " + s, x.listed(i), numbers[i]);
        }
    }

    private static void overlaps() {
        WordSupper x = new WordSupper();
        Check.lay(x, 3, 1, 2, 3, 4, 5);
        Check.due("37: within one sheet, on", x.copy(3, 0, 3, 1, 4), 4);
        shows(x, 3, 1, 1, 2, 3, 4);
        Check.due("37: within one sheet, back", x.copy(3, 1, 3, 0, 4), 4);
        shows(x, 3, 1, 2, 3, 4, 4);
        Check.lay(x, 2, 7, 7, 7, 7, 7);
        Check.due("37: all", x.copy(3, 0, 2, 0, 5), 5);
        shows(x, 2, 1, 2, 3, 4, 4);
    }

    private static void promise38() {
        WordSupper x = new WordSupper();
        Check.lay(x, 0, 20, 0, 5, 21, 6);
        Check.due("38: up to 21", x.load(0), 3);
        int[] due = {20, 0, 5, 0, 0, 0};
        for (int taste = 0; taste < 6; taste++) {
            Check.due("38: listed " + taste, x.listed(taste), due[taste]);
        }
        Check.lay(x, 0, 1, 2, 3, 4, 5, 6, 7, 8);
        Check.due("38: six tastes", x.load(0), 6);
        Check.due("38: the last", x.listed(5), 6);
        Check.lay(x, 0, 9, -1, 9);
        Check.due("38: up to -1", x.load(0), 1);
        Check.due("38: the first came", x.listed(0), 9);
        Check.due("38: the second stays", x.listed(1), 2);
        Check.lay(x, 0, 21);
        Check.due("38: none", x.load(0), 0);
        Check.lay(x, 0);
        Check.due("38: an empty sheet", x.load(0), 0);
        Check.due("38: it stays", x.listed(0), 9);
        Check.due("38: sheet 4", x.load(4), Check.BEYOND);
        Check.due("38: sheet -1", x.load(-1), Check.BEYOND);
        Check.due("38: no sheet", x.load(1), Check.MISSING);
    }

    private static void promise39() {
        WordSupper x = Check.told("cook plate 1 2;cook;cook plate 999 999");
        judged(x, 0, 3, 0, 1998);
        judged(x, 3, 3, 0, 1997);
        judged(x, 2, 3, -1, 1998);
        judged(x, 1, 2, 1, 1);
        judged(x, 0, 3);
        judged(x, 0);
        judged(x, 4, 3, 0, 1998, 0);
        judged(x, 4, 3, 0, 1998, 0, 0);
        judged(new WordSupper(), 1, 0);
        Check.due("39: sheet 4", x.judge(4), Check.BEYOND);
        Check.due("39: sheet -1", x.judge(-1), Check.BEYOND);
        Check.due("39: no sheet", x.judge(1), Check.MISSING);
    }

    private static void judged(WordSupper x, int due, int... numbers) {
        Check.lay(x, 0, numbers);
        Check.due("39: judge " + java.util.Arrays.toString(numbers), x.judge(0), due);
    }
}
