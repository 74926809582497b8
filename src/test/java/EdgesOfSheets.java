import java.util.Arrays;
import java.util.function.Supplier;

/** The edges of promises 33 to 39: spots and sheets. */
final class EdgesOfSheets {
    private EdgesOfSheets() {
    }

    static void run() {
        hold();
        as();
        asKinds();
        sheet();
        sheetIsNew();
        sheetsAreApart();
        sheetRefused();
        write();
        writeBits();
        copy();
        copyEnds();
        copyFar();
        copyOrder();
        copyWithin();
        load();
        loadBits();
        judge();
        judgeBits();
        missingAtFirst();
    }

    private static void hold() {
        Edge.says(33, "A SPOT holds a SPEAKER, or nothing (-1): 1. BEYOND.");
        WordSupper x = Rooms.eight();
        for (int spot = 0; spot <= 9; spot++) {
            Edge.is("hold(" + spot + ", 7)", x.hold(spot, 7), 1);
            Edge.is("as(" + spot + ", 0)", x.as(spot, 0), 7);
        }
        Edge.is("all hold one", x.count(7), 10);
        for (int spot = 0; spot <= 9; spot++) {
            Edge.is("hold(" + spot + ", -1)", x.hold(spot, -1), 1);
            Edge.is("count(7)", x.count(7), 9 - spot);
        }
        Edge.is("hold(0, -1) again", x.hold(0, -1), 1);
        Edge.is("hold(0, 0)", x.hold(0, 0), 1);
        Edge.is("as(0, 0)", x.as(0, 0), 0);
        Edge.is("hold(9, -1) with nobody", new WordSupper().hold(9, -1), 1);
        Some.outside("hold by spot ", 0, 9, (y, spot) -> y.hold(spot, 1));
        Some.outside("hold nothing by spot ", 0, 9, (y, spot) -> y.hold(spot, -1));
        Some.refused(Rooms::three, "hold(4, ..) of ", (y, speaker) -> y.hold(4, speaker), -2, 3, 7, 8, Some.LOWEST, Some.HIGHEST);
        Some.refused(Rooms::eight, "hold(4, ..) of ", (y, speaker) -> y.hold(4, speaker), -2, 8);
        Some.refused(Rooms::nobody, "hold(4, ..) of ", (y, speaker) -> y.hold(4, speaker), -2, 0);
    }

    private static void as() {
        Edge.says(34, "What a SPOT holds as one of a kind (0 to 6): the number of the SPEAKER. BEYOND. MISSING: it holds nothing.");
        Edge.onlyTells(Rooms::three, "as(0, 2), a saint", 2, x -> x.as(0, 2));
        Edge.onlyTells(Rooms::three, "as(4, 6), a liar", 1, x -> x.as(4, 6));
        Edge.onlyTells(Rooms::three, "as(9, 0), a cook", 0, x -> x.as(9, 0));
        Some.outside("as by spot ", 0, 9, (x, spot) -> x.as(spot, 0));
        Some.outside("as by kind ", 0, 6, (x, kind) -> x.as(4, kind));
        for (int spot : new int[] {1, 3, 5, 8}) {
            Edge.refused(Rooms::three, "as(" + spot + ", 0), nothing is there", Check.MISSING, x -> x.as(spot, 0));
            Edge.refused(Rooms::three, "as(" + spot + ", 6), nothing is there", Check.MISSING, x -> x.as(spot, 6));
            Edge.refused(Rooms::three, "as(" + spot + ", 7), BEYOND ahead of MISSING", Check.BEYOND, x -> x.as(spot, 7));
        }
        Edge.refused(Rooms::nobody, "as(0, 0) with nobody", Check.MISSING, x -> x.as(0, 0));
        Edge.says(34, "KIND: it isn't of that kind, nor of one under it.");
        Edge.refused(Rooms::three, "as(4, 2), a liar", Check.KIND, x -> x.as(4, 2));
        Edge.refused(Rooms::three, "as(4, -1), BEYOND ahead of KIND", Check.BEYOND, x -> x.as(4, -1));
        Edge.refused(Rooms::three, "as(9, 6), a cook", Check.KIND, x -> x.as(9, 6));
    }

    /** By kinds of speakers, the kinds as one of which each counts. */
    private static void asKinds() {
        Edge.says(Doc.TERMS, "0 SPEAKER; 1 LAWYER, 2 CHILD, 5 COOK under SPEAKER; 3 SAINT under CHILD; 4 READER under SAINT; 6 LIAR under LAWYER");
        int[] sets = {0b0000001, 0b0000011, 0b0000101, 0b0001101, 0b0011101, 0b0100001, 0b1000011};
        WordSupper x = Check.told("cook;cook;cook");
        x.hold(9, 2);
        for (int kind = 0; kind < 7; kind++) {
            x.change(2, 0, kind);
            for (int asked = 0; asked < 7; asked++) {
                int due = (sets[kind] >> asked & 1) == 1 ? 2 : Check.KIND;
                Edge.is("a speaker of kind " + kind + " as one of kind " + asked, x.as(9, asked), due);
            }
        }
    }

    private static void sheet() {
        Edge.says(35, "A sheet has n numbers, all 0, of 8, 16 or 32 bits; bits 0: it is MISSING: n (0 if it is MISSING).");
        for (int s : new int[] {0, 3}) {
            for (int bits : new int[] {8, 16, 32}) {
                for (int n : new int[] {0, 1, 39, 40}) {
                    WordSupper x = Rooms.three();
                    String call = "sheet(" + s + ", " + bits + ", " + n + ")";
                    Edge.is(call, x.sheet(s, bits, n), n);
                    Edge.is("numbers behind " + call, Rooms.size(x, s), n);
                    Edge.is("bits behind " + call, Rooms.bits(x, s), n == 0 ? 0 : bits);
                }
            }
            for (int n : new int[] {0, 1, 40}) {
                WordSupper x = Rooms.three();
                Edge.is("sheet(" + s + ", 0, " + n + ")", x.sheet(s, 0, n), 0);
                Edge.is("it is missing", x.load(s), Check.MISSING);
                Edge.is("sheet(" + s + ", 0, " + n + ") again", x.sheet(s, 0, n), 0);
            }
        }
        WordSupper x = Rooms.three();
        x.sheet(2, 8, 0);
        Edge.is("a sheet without numbers is not missing", x.load(2), 0);
        Edge.is("judge of it", x.judge(2), 0);
    }

    private static void sheetIsNew() {
        Edge.says(35, "A sheet has n numbers, all 0");
        for (int bits : new int[] {8, 16, 32}) {
            WordSupper x = new WordSupper();
            Rooms.lay(x, 1, 32, filled(40, 20));
            Rooms.lay(x, 2, 32, filled(40, 20));
            x.sheet(1, bits, 40);
            for (int from = 0; from < 40; from += 5) {
                x.copy(1, from, 1, 0, 5);
                Edge.is("numbers from " + from + " on, of " + bits + " bits", x.load(1), 6);
                Edge.is("one of these", x.listed(4), 0);
                Edge.is("the first one", x.listed(0), 0);
            }
            Edge.is("another sheet stays", x.load(2), 6);
            Edge.is("its last one that came", x.listed(5), 20);
        }
        WordSupper again = new WordSupper();
        Rooms.lay(again, 0, 8, 7, 7, 7);
        again.sheet(0, 8, 1);
        again.sheet(0, 8, 3);
        Edge.is("smaller, then larger again", again.load(0), 3);
        Edge.is("all are 0", again.listed(0) + again.listed(1) + again.listed(2), 0);
        Rooms.lay(again, 0, 8, 7, 7, 7);
        again.sheet(0, 0, 0);
        again.sheet(0, 8, 3);
        again.load(0);
        Edge.is("missing in between", again.listed(0) + again.listed(1) + again.listed(2), 0);
    }

    private static void sheetsAreApart() {
        Edge.says(35, "A sheet has n numbers, all 0");
        for (int laid = 0; laid <= 3; laid++) {
            WordSupper x = new WordSupper();
            for (int s = 0; s <= 3; s++) {
                Rooms.lay(x, s, 32, filled(40, 5 + s));
            }
            x.sheet(laid, 32, 40);
            for (int s = 0; s <= 3; s++) {
                for (int i = 0; i < 40; i += 6) {
                    int n = Math.min(6, 40 - i);
                    x.copy(s, i, s, 0, n);
                    x.load(s);
                    for (int taste = 0; taste < n; taste++) {
                        String call = "number " + (i + taste) + " of sheet " + s + " behind sheet(" + laid + ", 32, 40)";
                        Edge.is(call, x.listed(taste), s == laid ? 0 : 5 + s);
                    }
                }
            }
        }
    }

    private static int[] filled(int n, int v) {
        int[] numbers = new int[n];
        Arrays.fill(numbers, v);
        return numbers;
    }

    private static void sheetRefused() {
        Edge.says(35, "BEYOND: no such sheet, other bits. SIZE: n is below 0 (also with bits 0). BEYOND: n is above 40 (also with bits 0).");
        Some.noSheet("sheet of 8 bits", (x, s) -> x.sheet(s, 8, 1));
        Some.noSheet("sheet of 0 bits", (x, s) -> x.sheet(s, 0, 0));
        Some.noSheet("sheet, BEYOND ahead of SIZE", (x, s) -> x.sheet(s, 8, -1));
        int[] bits = {-1, 1, 4, 7, 9, 15, 17, 24, 31, 33, 64, -8, -16, -32, Some.LOWEST, Some.HIGHEST};
        Some.refused(Rooms::three, "sheet 0 of bits ", (x, b) -> x.sheet(0, b, 1), bits);
        Some.refused(Rooms::three, "sheet 0 with -1 numbers, BEYOND ahead of SIZE, of bits ", (x, b) -> x.sheet(0, b, -1), bits);
        for (int b : new int[] {0, 8, 16, 32}) {
            for (int n : new int[] {-1, Some.LOWEST}) {
                Edge.refused(Rooms::three, "sheet(0, " + b + ", " + n + ")", Check.SIZE, x -> x.sheet(0, b, n));
                Edge.refused(Rooms::three, "sheet(3, " + b + ", " + n + ")", Check.SIZE, x -> x.sheet(3, b, n));
            }
            Some.refused(Rooms::three, "sheet 0 of " + b + " bits, numbers ", (x, n) -> x.sheet(0, b, n), 41, Some.HIGHEST);
            Some.refused(Rooms::three, "sheet 3 of " + b + " bits, numbers ", (x, n) -> x.sheet(3, b, n), 41, Some.HIGHEST);
        }
    }

    private static void write() {
        Edge.says(36, "BEYOND: no such sheet. MISSING. BEYOND: no such number.");
        WordSupper x = new WordSupper();
        x.sheet(3, 16, 40);
        Edge.is("write(3, 0, 5)", x.write(3, 0, 5), 1);
        Edge.is("write(3, 39, 6)", x.write(3, 39, 6), 1);
        x.load(3);
        Edge.is("the first", x.listed(0), 5);
        x.copy(3, 39, 3, 0, 1);
        x.load(3);
        Edge.is("the last", x.listed(0), 6);
        Some.noSheet("write", (y, s) -> y.write(s, 0, 1));
        Some.noSheet("write of no number", (y, s) -> y.write(s, -1, 1));
        Some.refused(Rooms::three, "write to sheet 0, number ", (y, i) -> y.write(0, i, 9), -1, 3, 39, 40, Some.LOWEST, Some.HIGHEST);
        Some.refused(Rooms::three, "write to sheet 2, number ", (y, i) -> y.write(2, i, 9), -1, 6, 40);
        Some.refused(EdgesOfSheets::longest, "write to forty numbers, number ", (y, i) -> y.write(1, i, 9), -1, 40, Some.HIGHEST);
        Some.refused(EdgesOfSheets::longest, "write to no numbers, number ", (y, i) -> y.write(0, i, 9), -1, 0, 1);
        Edge.refused(Rooms::three, "write(3, 0, 1)", Check.MISSING, y -> y.write(3, 0, 1));
        Edge.refused(Rooms::three, "write(3, -1, 1), MISSING ahead of no such number", Check.MISSING, y -> y.write(3, -1, 1));
        Edge.refused(Rooms::three, "write(3, 40, 1), MISSING ahead of no such number", Check.MISSING, y -> y.write(3, 40, 1));
        Edge.refused(Rooms::nobody, "write(0, 0, 1) at first", Check.MISSING, y -> y.write(0, 0, 1));
    }

    /** Sheet 0 is empty, sheets 1 and 2 have forty numbers, sheet 3 is missing. */
    private static WordSupper longest() {
        WordSupper x = Check.told("cook plate 7");
        x.sheet(0, 32, 0);
        Rooms.lay(x, 1, 32, filled(40, 3));
        Rooms.lay(x, 2, 32, filled(40, 4));
        return x;
    }

    private static void writeBits() {
        Edge.says(36, "Number i of a sheet becomes v (its lowest bits): 1.");
        int[][] rows = {
            // bits, v, what it is
            {8, 127, 127}, {8, 256, 0}, {8, 257, 1}, {8, 383, 127}, {8, -256, 0}, {8, -129, 127}, {8, -255, 1}, {8, Some.LOWEST, 0},
            {16, 128, 128}, {16, 255, 255}, {16, 256, 256}, {16, 65536, 0}, {16, 65537, 1}, {16, 71530, 5994}, {16, -65535, 1}, {16, Some.LOWEST, 0},
            {32, 128, 128}, {32, 255, 255}, {32, 5994, 5994}, {32, 0, 0},
        };
        for (int[] row : rows) {
            WordSupper x = leftOf(row[2]);
            x.sheet(0, row[0], 2);
            Edge.is("write of " + row[1] + " to " + row[0] + " bits", x.write(0, 0, row[1]), 1);
            Edge.is(row[1] + " of " + row[0] + " bits as words left", judged(x), 1);
        }
        Edge.says(Doc.TERMS, "(told with their sign: of 8 bits 255 is -1)");
        int[][] any = {
            {8, 255, 63}, {8, -1, 63}, {8, 511, 63}, {8, 254, 0}, {8, 128, 0}, {16, 255, 0},
            {16, 65535, 63}, {16, -1, 63}, {16, 65534, 0}, {32, -1, 63}, {32, 255, 0}, {32, 65535, 0}, {32, Some.LOWEST, 0},
        };
        for (int[] row : any) {
            WordSupper x = leftOf(0);
            Rooms.lay(x, 0, row[0], row[1]);
            Edge.is(row[1] + " of " + row[0] + " bits is -1, any", x.fits(0, 0), row[2]);
        }
    }

    /** A cook with so many words, behind whom nobody sits: of two numbers the second one isn't so. */
    private static WordSupper leftOf(int words) {
        WordSupper x = Check.told("cook");
        for (int taste = 0; taste < 6; taste++) {
            x.serve(0, taste, Math.max(0, Math.min(999, words - 999 * taste)));
        }
        return x;
    }

    /** 1, if the first number is so, and the second one is asked. */
    private static int judged(WordSupper x) {
        return x.judge(0) - 1;
    }

    private static void copy() {
        Edge.says(37, "BEYOND: no such sheet (either). MISSING: one is. KIND: they are not of as many bits.");
        Some.noSheet("copy from", (x, s) -> x.copy(s, 0, 0, 0, 1));
        Some.noSheet("copy to", (x, t) -> x.copy(0, 0, t, 0, 1));
        Some.noSheet("copy, BEYOND ahead of MISSING, from", (x, s) -> x.copy(s, 0, 3, 0, 1));
        Some.noSheet("copy, BEYOND ahead of MISSING, to", (x, t) -> x.copy(3, 0, t, 0, 1));
        finds("copy from a missing one", Check.MISSING, 3, 0, 0, 0, 1);
        finds("copy to a missing one", Check.MISSING, 0, 0, 3, 0, 1);
        finds("copy within a missing one", Check.MISSING, 3, 0, 3, 0, 0);
        finds("MISSING ahead of numbers below 0", Check.MISSING, 0, -1, 3, -1, -1);
        finds("MISSING ahead of too many", Check.MISSING, 3, 41, 0, 41, 41);
        finds("8 bits to 16", Check.KIND, 0, 0, 1, 0, 1);
        finds("16 bits to 8", Check.KIND, 1, 0, 0, 0, 1);
        finds("16 bits to 32", Check.KIND, 1, 0, 2, 0, 1);
        finds("32 bits to 8, no numbers", Check.KIND, 2, 0, 0, 0, 0);
        finds("KIND ahead of numbers below 0", Check.KIND, 0, -1, 1, -1, -1);
        finds("KIND ahead of too many", Check.KIND, 0, 41, 1, 41, 41);
    }

    private static void finds(String call, int finding, int s, int from, int t, int to, int n) {
        finds(Rooms::three, call, finding, s, from, t, to, n);
    }

    private static void finds(Supplier<WordSupper> room, String call, int finding, int s, int from, int t, int to, int n) {
        String told = "copy(" + s + ", " + from + ", " + t + ", " + to + ", " + n + "), " + call;
        Edge.refused(room, told, finding, x -> x.copy(s, from, t, to, n));
    }

    private static void copyEnds() {
        Edge.says(37, "BEYOND: one has not so many, or from, to or n is below 0.");
        int[][] rows = {
            // from, to, n of sheets with four and three numbers; what is due
            {0, 0, 0, 0}, {4, 3, 0, 0}, {4, 0, 0, 0}, {0, 3, 0, 0}, {0, 0, 3, 3}, {1, 0, 3, 3}, {3, 2, 1, 1}, {0, 2, 1, 1}, {3, 0, 1, 1}, {2, 1, 2, 2},
            {5, 0, 0, -1}, {0, 4, 0, -1}, {2, 0, 3, -1}, {4, 0, 1, -1}, {0, 3, 1, -1}, {0, 2, 2, -1}, {0, 0, 4, -1}, {0, 1, 3, -1}, {3, 0, 2, -1},
            {-1, 0, 1, -1}, {0, -1, 1, -1}, {0, 0, -1, -1}, {-1, 0, 0, -1}, {0, -1, 0, -1}, {1, 1, -1, -1}, {-1, -1, -1, -1}, {-1, 0, 2, -1}, {0, -1, 2, -1},
        };
        for (int[] row : rows) {
            String call = "of four and three numbers";
            if (row[3] < 0) {
                finds(EdgesOfSheets::fourAndThree, call, Check.BEYOND, 0, row[0], 1, row[1], row[2]);
            } else {
                WordSupper x = fourAndThree();
                Edge.is("copy(0, " + row[0] + ", 1, " + row[1] + ", " + row[2] + ") " + call, x.copy(0, row[0], 1, row[1], row[2]), row[3]);
                x.load(1);
                for (int i = 0; i < 3; i++) {
                    boolean came = i >= row[1] && i < row[1] + row[2];
                    Edge.is("number " + i + " behind it", x.listed(i), came ? 1 + row[0] + i - row[1] : 11 + i);
                }
                x.load(0);
                Edge.is("the first one's last number stays", x.listed(3), 4);
            }
        }
    }

    private static WordSupper fourAndThree() {
        WordSupper x = new WordSupper();
        Rooms.lay(x, 0, 16, 1, 2, 3, 4);
        Rooms.lay(x, 1, 16, 11, 12, 13);
        return x;
    }

    private static void copyFar() {
        Edge.says(37, "BEYOND: one has not so many, or from, to or n is below 0.");
        int[] far = {Some.LOWEST, Some.HIGHEST, Some.HIGHEST - 1, -40, 40, 41, 1 << 30};
        for (int v : far) {
            finds(EdgesOfSheets::fourAndThree, "far from", Check.BEYOND, 0, v, 1, 0, 1);
            finds(EdgesOfSheets::fourAndThree, "far to", Check.BEYOND, 0, 0, 1, v, 1);
            finds(EdgesOfSheets::fourAndThree, "far many", Check.BEYOND, 0, 0, 1, 0, v);
            finds(EdgesOfSheets::fourAndThree, "far from and many", Check.BEYOND, 0, v, 1, 0, v);
            finds(EdgesOfSheets::fourAndThree, "far in all", Check.BEYOND, 0, v, 1, v, v);
            finds(EdgesOfSheets::fourAndThree, "from and n wrap around", Check.BEYOND, 0, Some.HIGHEST, 1, Some.HIGHEST, Some.LOWEST + v);
        }
        finds(EdgesOfSheets::fourAndThree, "from and n wrap around", Check.BEYOND, 0, 2, 1, 0, Some.HIGHEST);
        finds(EdgesOfSheets::fourAndThree, "from and n wrap around", Check.BEYOND, 0, Some.HIGHEST, 1, 0, 2);
        WordSupper x = longest();
        Edge.is("all forty", x.copy(1, 0, 2, 0, 40), 40);
        Edge.is("of nothing nothing", x.copy(0, 0, 0, 0, 0), 0);
        Edge.is("nothing behind forty", x.copy(1, 40, 2, 40, 0), 0);
        finds(EdgesOfSheets::longest, "forty-one", Check.BEYOND, 1, 0, 2, 0, 41);
        finds(EdgesOfSheets::longest, "one of nothing", Check.BEYOND, 1, 0, 0, 0, 1);
        finds(EdgesOfSheets::longest, "one of nothing", Check.BEYOND, 0, 0, 1, 0, 1);
        finds(EdgesOfSheets::longest, "forty from one on", Check.BEYOND, 1, 1, 2, 0, 40);
        finds(EdgesOfSheets::longest, "forty to one on", Check.BEYOND, 1, 0, 2, 1, 40);
    }

    private static void copyOrder() {
        Edge.says(37, "n numbers of a sheet from one on come to another one from one on");
        for (int bits : new int[] {8, 16, 32}) {
            WordSupper x = new WordSupper();
            Rooms.lay(x, 0, bits, 5, 255, -1);
            Rooms.lay(x, 3, bits, 9, 9, 9);
            Edge.is("copy of three of " + bits + " bits", x.copy(0, 0, 3, 0, 3), 3);
            x.speaker(5);
            x.copy(3, 2, 3, 0, 1);
            x.sheet(1, bits, 1);
            x.copy(3, 2, 1, 0, 1);
            Edge.is("-1 stays -1 with " + bits + " bits", x.fits(1, 0), 63);
            Edge.is("bits stay", Rooms.bits(x, 3), bits);
            Edge.is("numbers stay", Rooms.size(x, 3), 3);
        }
    }

    private static void copyWithin() {
        Edge.says(37, "(as they all were): n.");
        int[][] rows = {
            // from, to, n; the six numbers then
            {0, 1, 5, 1, 1, 2, 3, 4, 5}, {1, 0, 5, 2, 3, 4, 5, 6, 6}, {0, 0, 6, 1, 2, 3, 4, 5, 6}, {0, 2, 4, 1, 2, 1, 2, 3, 4},
            {2, 0, 4, 3, 4, 5, 6, 5, 6}, {0, 5, 1, 1, 2, 3, 4, 5, 1}, {5, 0, 1, 6, 2, 3, 4, 5, 6}, {1, 2, 3, 1, 2, 2, 3, 4, 6}, {0, 3, 3, 1, 2, 3, 1, 2, 3},
        };
        for (int[] row : rows) {
            for (int bits : new int[] {8, 16, 32}) {
                WordSupper x = new WordSupper();
                Rooms.lay(x, 2, bits, 1, 2, 3, 4, 5, 6);
                String call = "copy(2, " + row[0] + ", 2, " + row[1] + ", " + row[2] + ")";
                Edge.is(call, x.copy(2, row[0], 2, row[1], row[2]), row[2]);
                x.load(2);
                for (int i = 0; i < 6; i++) {
                    Edge.is("number " + i + " behind " + call, x.listed(i), row[3 + i]);
                }
            }
        }
    }

    private static void load() {
        Edge.says(38, "It ends at the first that isn't 0 to 20, or for which there is no TASTE. BEYOND: no such sheet. MISSING.");
        int[][] rows = {
            {}, {0}, {20}, {21}, {-1}, {20, 20, 20, 20, 20, 20}, {0, 0, 0, 0, 0, 0, 0}, {1, 2, 3, 4, 5, 6, 21},
            {1, 21, 3}, {1, 2, -1, 4}, {1, 2, 3, 4, 5, 21}, {1, 2, 3, 4, 5, -1, 7}, {Some.LOWEST}, {1, Some.HIGHEST},
        };
        int[] came = {0, 1, 1, 0, 0, 6, 6, 6, 1, 2, 5, 5, 0, 1};
        for (int i = 0; i < rows.length; i++) {
            WordSupper x = new WordSupper();
            for (int taste = 0; taste < 6; taste++) {
                x.list(taste, 9);
            }
            Rooms.lay(x, 3, 32, rows[i]);
            String call = "load of " + Arrays.toString(rows[i]);
            Edge.is(call, x.load(3), came[i]);
            for (int taste = 0; taste < 6; taste++) {
                Edge.is("listed(" + taste + ") behind " + call, x.listed(taste), taste < came[i] ? rows[i][taste] : 9);
            }
            Edge.is("status(-1) behind " + call, x.status(-1), 0);
        }
        WordSupper x = longest();
        Edge.is("load of forty numbers", x.load(1), 6);
        Some.noSheet("load", (y, s) -> y.load(s));
        Edge.refused(Rooms::three, "load(3)", Check.MISSING, y -> y.load(3));
        Edge.refused(Rooms::nobody, "load(0)", Check.MISSING, y -> y.load(0));
    }

    private static void loadBits() {
        Edge.says(38, "Numbers of a sheet, from its begin on, become what THE LIST tells of TASTES 0, 1, ..: how many came.");
        int[][] rows = {{8, 276, 1, 20}, {8, 277, 0, 0}, {8, 255, 0, 0}, {8, 236, 0, 0}, {16, 276, 0, 0}, {16, 65556, 1, 20}, {16, 65557, 0, 0}, {32, 65556, 0, 0}, {32, 20, 1, 20}};
        for (int[] row : rows) {
            WordSupper x = new WordSupper();
            Rooms.lay(x, 0, row[0], row[1]);
            Edge.is("load of " + row[1] + " of " + row[0] + " bits", x.load(0), row[2]);
            Edge.is("listed(0) behind " + row[1] + " of " + row[0] + " bits", x.listed(0), row[3]);
        }
    }

    private static void judge() {
        Edge.says(39, "0 if so; else 1 and the place of the first that isn't so. BEYOND: no such sheet. MISSING.");
        judges(0);
        judges(0, 3);
        judges(0, 3, 0, 5994);
        judges(0, 3, 0);
        judges(1, 4, 0, 5994);
        judges(1, 2, 1, 1);
        judges(2, 3, 1, 5994);
        judges(2, 3, -1, 1);
        judges(3, 3, 0, 5993);
        judges(3, 3, 0, 5995);
        judges(1, -1);
        judges(1, Some.LOWEST);
        Edge.is("nobody, no numbers", numbers(new WordSupper()).judge(0), 0);
        Some.noSheet("judge", (y, s) -> y.judge(s));
        Edge.refused(Rooms::three, "judge(3)", Check.MISSING, y -> y.judge(3));
        Edge.refused(Rooms::nobody, "judge(0)", Check.MISSING, y -> y.judge(0));
        WordSupper eight = Rooms.eight();
        int[] left = new int[8];
        for (int speaker = 0; speaker < 8; speaker++) {
            left[speaker] = eight.of(speaker, 5);
        }
        Rooms.lay(eight, 3, 32, left);
        Edge.is("all of eight", eight.judge(3), 0);
        eight.write(3, 7, left[7] + 1);
        Edge.is("the last of eight", eight.judge(3), 8);
        eight.write(3, 0, left[0] + 1);
        Edge.is("the first of eight", eight.judge(3), 1);
    }

    private static void judges(int due, int... numbers) {
        String call = "judge of " + Arrays.toString(numbers);
        Edge.onlyTells(() -> numbers(Check.told("cook plate 0 0 0 0 3;cook;cook plate 999 999 999 999 999 999"), numbers), call, due, x -> x.judge(0));
    }

    private static WordSupper numbers(WordSupper x, int... numbers) {
        Rooms.lay(x, 0, 32, numbers);
        return x;
    }

    private static void judgeBits() {
        Edge.says(39, "numbers of a sheet are LEFT of SPEAKERS 0, 1, ..");
        int[][] rows = {{8, 127, 127, 0}, {8, 128, 128, 1}, {8, 200, 200, 1}, {8, 256, 256, 1}, {8, 256, 0, 0}, {16, 200, 200, 0}, {16, 5994, 5994, 0}, {32, 5994, 5994, 0}};
        for (int[] row : rows) {
            WordSupper x = leftOf(row[2]);
            Rooms.lay(x, 0, row[0], row[1]);
            Edge.is("judge of " + row[1] + " of " + row[0] + " bits, " + row[2] + " left", x.judge(0), row[3]);
        }
    }

    private static void missingAtFirst() {
        Edge.says(Doc.TERMS, "SHEETS 0 to 3: rows of at most 40 numbers of 8, 16 or 32 bits (told with their sign: of 8 bits 255 is -1), or MISSING (at first).");
        for (int s = 0; s <= 3; s++) {
            WordSupper x = new WordSupper();
            x.speaker(0);
            Edge.is("write(" + s + ", 0, 0)", x.write(s, 0, 0), Check.MISSING);
            Edge.is("fits(" + s + ", 0)", x.fits(s, 0), Check.MISSING);
            Edge.is("kinds(" + s + ", 0)", x.kinds(s, 0), Check.MISSING);
            Edge.is("judge(" + s + ")", x.judge(s), Check.MISSING);
            Edge.is("copy(" + s + ", 0, " + s + ", 0, 0)", x.copy(s, 0, s, 0, 0), Check.MISSING);
            Edge.is("sheet(" + s + ", 32, 40)", x.sheet(s, 32, 40), 40);
            Edge.is("write(" + s + ", 39, 0)", x.write(s, 39, 0), 1);
            Edge.is("status(5)", x.status(5), 5);
        }
    }
}
