/** The edges of promises 40 to 44: images, counts, status. */
final class EdgesOfImages {
    private EdgesOfImages() {
    }

    static void run() {
        image();
        imageOfNobody();
        imageOfAll();
        notKept();
        undo();
        latest();
        tear();
        count();
        countOfAll();
        status();
        statusOfUndo();
        statusCountsEach();
    }

    private static void image() {
        Edge.says(40, "All but THE TAPE and SHEETS is kept: 1.");
        WordSupper x = Rooms.three();
        String before = Check.seen(x);
        Edge.is("image()", x.image(), 1);
        Edge.is("image() again", x.image(), 1);
        Edge.is("image() changes nothing", Check.seen(x).equals(before) ? 1 : 0, 1);
        x.text();
        x.go(60);
        x.talk(20);
        x.vinegar(0);
        x.list(5, 20);
        x.seed(0);
        x.speaker(6);
        x.hold(1, 3);
        x.hold(9, -1);
        for (int speaker = 0; speaker < 3; speaker++) {
            x.change(speaker, 0, speaker);
            x.change(speaker, 1, 3);
            x.change(speaker, 2, 98);
            x.change(speaker, 3, 98);
            for (int taste = 0; taste < 6; taste++) {
                x.serve(speaker, taste, 600 + taste);
            }
        }
        Edge.is("undo()", x.undo(), 2);
        Check.feed(x, "vinegar 7;list 2 3;cook fat 4");
        Edge.is("all as it was kept", Check.seen(x).equals(before) ? 1 : 0, 1);
    }

    private static void imageOfNobody() {
        Edge.says(40, "All but THE TAPE and SHEETS is kept: 1.");
        WordSupper x = new WordSupper();
        String before = Check.seen(x);
        Edge.is("image() of a new object", x.image(), 1);
        Check.read(x, "cook plate 1 2 3 4 5 6;liar loves 0 fat 9;list 5 9;vinegar 2");
        x.hold(0, 1);
        x.seed(3);
        x.change(0, 3, 7);
        x.go(3);
        Edge.is("undo()", x.undo(), 0);
        Edge.is("all as at first", Check.seen(x).equals(before) ? 1 : 0, 1);
        Edge.is("no speakers", x.of(0, 0), Check.BEYOND);
        Edge.is("a new speaker", x.speaker(0), 0);
        Edge.is("whom it loves", x.of(0, 1), -1);
        Edge.is("its fat", x.of(0, 2), 50);
        Edge.is("what it ate", x.of(0, 3), 0);
        Edge.is("its plate", x.of(0, 6), 0);
        Edge.is("its spot", x.as(0, 0), Check.MISSING);
    }

    private static void imageOfAll() {
        Edge.says(41, "It becomes what was kept latest (which stays): DAY.");
        WordSupper x = Rooms.eight();
        for (int spot = 0; spot <= 9; spot++) {
            x.hold(spot, 7 - spot % 8);
        }
        x.go(60);
        x.wipe();
        String full = Check.seen(x);
        x.image();
        for (int spot = 0; spot <= 9; spot++) {
            x.hold(spot, -1);
        }
        x.change(7, 1, 0);
        x.serve(7, 5, 999);
        x.talk(20);
        Edge.is("undo()", x.undo(), 62);
        Edge.is("all of eight as it was kept", Check.seen(x).equals(full) ? 1 : 0, 1);
        Edge.is("a 9th is one too many, still", x.speaker(0), Check.FULL);
    }

    private static void notKept() {
        Edge.says(40, "All but THE TAPE and SHEETS is kept");
        WordSupper x = new WordSupper();
        Check.feed(x, "cook");
        Rooms.lay(x, 0, 8, 5);
        Rooms.lay(x, 1, 8, 5);
        x.image();
        Check.feed(x, ";liar");
        x.write(0, 0, 6);
        x.sheet(1, 0, 0);
        Rooms.lay(x, 2, 16, 7);
        x.undo();
        Edge.is("bytes of the tape", x.count(5), 9);
        Edge.is("a text of two", x.text(), 2);
        x.undo();
        Edge.is("the tape that was read is empty, still", x.wipe(), 0);
        Edge.is("a number that was written", x.load(0), 1);
        Edge.is("it is", x.listed(0), 6);
        Edge.is("a sheet that is missing", x.load(1), Check.MISSING);
        Edge.is("a new sheet", x.load(2), 1);
        Edge.is("its number", x.listed(0), 7);
        Edge.is("its bits", Rooms.bits(x, 2), 16);
    }

    private static void undo() {
        Edge.says(41, "NONE: nothing is kept.");
        Edge.refused(Rooms::nobody, "undo() of a new object", Check.NONE, x -> x.undo());
        Edge.refused(EdgesOfImages::torn, "undo() of what is torn", Check.NONE, x -> x.undo());
        Edge.says(41, "(which stays)");
        WordSupper x = Rooms.three();
        for (int i = 0; i < 3; i++) {
            Edge.is("undo(), time " + i, x.undo(), 0);
            x.go(1);
        }
    }

    private static WordSupper torn() {
        WordSupper x = Rooms.three();
        x.tear();
        return x;
    }

    private static void latest() {
        Edge.says(41, "what was kept latest");
        WordSupper x = Check.told("cook");
        for (int day = 0; day < 4; day++) {
            x.image();
            x.go(1);
        }
        Edge.is("undo() behind four images", x.undo(), 3);
        Edge.is("undo() again", x.undo(), 3);
        Edge.is("tear()", x.tear(), 1);
        Edge.is("undo(), none of the earlier ones", x.undo(), Check.NONE);
        Edge.is("the day stays", x.now(0), 3);
        Edge.is("image()", x.image(), 1);
        x.go(5);
        Edge.is("undo()", x.undo(), 3);
    }

    private static void tear() {
        Edge.says(42, "Nothing is kept: 1 if something was, else 0.");
        WordSupper x = new WordSupper();
        Edge.is("tear() of a new object", x.tear(), 0);
        x.image();
        Edge.is("tear()", x.tear(), 1);
        Edge.is("tear() again", x.tear(), 0);
        x.image();
        x.undo();
        Edge.is("tear() behind undo()", x.tear(), 1);
        Edge.is("status(-1)", x.status(-1), 0);
        WordSupper y = Rooms.three();
        String before = Check.seen(y);
        y.tear();
        Edge.is("all else stays", Check.seen(y).equals(before) ? 1 : 0, 1);
    }

    private static void count() {
        Edge.says(43, "0 DAY, 1 SPEAKERS, 2 LEFT of all together, 3 ATE of all together, 4 FAT of all together, 5 bytes of THE TAPE, 6 z, 7 SPOTS that hold something. BEYOND: another what.");
        int[] nobody = {0, 0, 0, 0, 0, 0, 1, 0};
        int[] one = {1, 1, 2, 3, 2, 4, -5, 1};
        for (int what = 0; what <= 7; what++) {
            int asked = what;
            Edge.onlyTells(Rooms::nobody, "count(" + what + ") of a new object", nobody[what], x -> x.count(asked));
            Edge.onlyTells(EdgesOfImages::one, "count(" + what + ") of one", one[what], x -> x.count(asked));
        }
        Some.outside("count ", 0, 7, (x, what) -> x.count(what));
        Some.refused(Rooms::nobody, "count of a new object ", (x, what) -> x.count(what), -1, 8);
    }

    private static WordSupper one() {
        WordSupper x = Check.told("cook fat 4 plate 0 0 0 0 2 3");
        x.go(1);
        x.hold(9, 0);
        x.seed(-5);
        x.feed(0, 4);
        return x;
    }

    private static void countOfAll() {
        Edge.says(43, "0 DAY, 1 SPEAKERS, 2 LEFT of all together, 3 ATE of all together, 4 FAT of all together");
        WordSupper x = Check.told("cook;cook;cook;cook;cook;cook;cook;cook");
        for (int speaker = 0; speaker < 8; speaker++) {
            x.change(speaker, 2, 99);
            x.change(speaker, 3, 99999);
            for (int taste = 0; taste < 6; taste++) {
                x.serve(speaker, taste, 999);
            }
        }
        for (int spot = 0; spot <= 9; spot++) {
            x.hold(spot, 0);
        }
        Check.feed(x, " ".repeat(120));
        int[] due = {0, 8, 47952, 799992, 792, 120, 1, 10};
        for (int what = 0; what <= 7; what++) {
            Edge.is("count(" + what + ") of all that can be", x.count(what), due[what]);
        }
    }

    private static void status() {
        Edge.says(44, "which -1: all, 0 to 6: BEYOND to SIZE. BEYOND (counted from then on): another one.");
        WordSupper x = new WordSupper();
        Edge.is("status(-1) of a new object", x.status(-1), 0);
        Edge.is("status(6) of a new object", x.status(6), 0);
        Edge.is("status(-2)", x.status(-2), Check.BEYOND);
        Edge.is("status(0) behind it", x.status(0), 1);
        Edge.is("status(-1) behind it", x.status(-1), 1);
        Edge.is("status(7)", x.status(7), Check.BEYOND);
        Edge.is("status(0) behind both", x.status(0), 2);
        Edge.is("status(-1) behind both", x.status(-1), 2);
        Edge.is("status(0) counts itself not", x.status(0), 2);
        Some.outside("status ", -1, 6, (y, which) -> y.status(which));
        Some.refused(Rooms::nobody, "status of a new object ", (y, which) -> y.status(which), -2, 7, Some.LOWEST, Some.HIGHEST);
    }

    private static void statusOfUndo() {
        Edge.says(44, "How many acts answered a finding ever (undo() takes none back)");
        WordSupper x = Rooms.eight();
        x.image();
        int all = x.status(-1);
        int full = x.status(1);
        x.speaker(0);
        x.speaker(0);
        x.undo();
        Edge.is("status(1) behind undo()", x.status(1), full + 2);
        Edge.is("status(-1) behind undo()", x.status(-1), all + 2);
        x.tear();
        Edge.is("status(-1) behind tear()", x.status(-1), all + 2);
        x.undo();
        Edge.is("status(3) behind undo() of nothing", x.status(3), 1);
    }

    private static void statusCountsEach() {
        Edge.says(44, "0 to 6: BEYOND to SIZE");
        WordSupper x = Rooms.eight();
        x.tear();
        int[] due = {x.status(0), x.status(1), x.status(2), x.status(3), 0, x.status(5), x.status(6)};
        int all = x.status(-1);
        for (int round = 1; round <= 3; round++) {
            x.vinegar(10);
            x.speaker(0);
            x.as(0, 6);
            x.undo();
            x.load(3);
            x.sheet(0, 8, -1);
            for (int which = 0; which <= 6; which++) {
                Edge.is("status(" + which + ") behind round " + round, x.status(which), which == 4 ? 0 : due[which] + round);
            }
            Edge.is("status(-1) behind round " + round, x.status(-1), all + 6 * round);
        }
    }
}
