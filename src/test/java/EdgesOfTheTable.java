/** The edges of promises 1 to 11: a new object, the table, the speakers. */
final class EdgesOfTheTable {
    private static final int LOWEST = Some.LOWEST;
    private static final int HIGHEST = Some.HIGHEST;

    private EdgesOfTheTable() {
    }

    static void run() {
        newObject();
        objectsAreApart();
        vinegar();
        list();
        listed();
        speaker();
        lastSpeaker();
        of();
        changeKind();
        changeLoves();
        changeFatAndAte();
        changeOther();
        serve();
        plate();
        chews();
        talks();
    }

    private static void newObject() {
        Edge.says(1, "All as at first; no SPEAKERS; THE TAPE is empty, no image is kept.");
        int[] due = {0, 0, 0, 0, 0, 0, 1, 0};
        for (int what = 0; what <= 7; what++) {
            Edge.is("count(" + what + ")", new WordSupper().count(what), due[what]);
        }
        Edge.is("of(0, 0)", new WordSupper().of(0, 0), Check.BEYOND);
        Edge.is("now(5)", new WordSupper().now(5), -1);
        Edge.is("wipe()", new WordSupper().wipe(), 0);
        Edge.is("text()", new WordSupper().text(), -1);
        Edge.is("undo()", new WordSupper().undo(), Check.NONE);
        Edge.is("tear()", new WordSupper().tear(), 0);
        for (int which = -1; which <= 6; which++) {
            Edge.is("status(" + which + ")", new WordSupper().status(which), 0);
        }
    }

    private static void objectsAreApart() {
        Edge.says(1, "All as at first");
        String first = Rooms.all(new WordSupper());
        WordSupper other = Rooms.eight();
        other.talk(20);
        Edge.is("a new one beside one that is full", Rooms.all(new WordSupper()).equals(first) ? 1 : 0, 1);
        Edge.is("status(-1) of a new one", new WordSupper().status(-1), 0);
    }

    private static void vinegar() {
        Edge.says(2, "VINEGAR becomes v: what it was. BEYOND.");
        WordSupper x = new WordSupper();
        Edge.is("vinegar(0)", x.vinegar(0), 1);
        Edge.is("vinegar(9)", x.vinegar(9), 0);
        Edge.is("vinegar(9) again", x.vinegar(9), 9);
        Edge.is("status(-1)", x.status(-1), 0);
        for (int v : new int[] {-1, 10, LOWEST, HIGHEST}) {
            Edge.refused(Rooms::three, "vinegar(" + v + ")", Check.BEYOND, y -> y.vinegar(v));
        }
    }

    private static void list() {
        Edge.says(3, "THE LIST tells v WORDS of a TASTE: how many it told. BEYOND.");
        for (int taste : new int[] {0, 5}) {
            WordSupper x = new WordSupper();
            Edge.is("list(" + taste + ", 20)", x.list(taste, 20), 0);
            Edge.is("list(" + taste + ", 0)", x.list(taste, 0), 20);
            Edge.is("list(" + taste + ", 1)", x.list(taste, 1), 0);
            Edge.is("listed(" + taste + ")", x.listed(taste), 1);
            for (int other = 1; other <= 4; other++) {
                Edge.is("listed(" + other + ") behind list(" + taste + ", 1)", x.listed(other), 0);
            }
        }
        int[][] rows = {{-1, 5}, {6, 5}, {LOWEST, 5}, {HIGHEST, 5}, {0, -1}, {5, 21}, {1, 21}, {2, LOWEST}, {3, HIGHEST}, {6, 21}};
        for (int[] row : rows) {
            Edge.refused(Rooms::three, "list(" + row[0] + ", " + row[1] + ")", Check.BEYOND, y -> y.list(row[0], row[1]));
        }
    }

    private static void listed() {
        Edge.says(4, "How many WORDS of a TASTE THE LIST tells. BEYOND.");
        Edge.onlyTells(Rooms::three, "listed(0)", 0, y -> y.listed(0));
        Edge.onlyTells(Rooms::three, "listed(4)", 3, y -> y.listed(4));
        Edge.onlyTells(Rooms::three, "listed(5)", 0, y -> y.listed(5));
        for (int taste : new int[] {-1, 6, LOWEST, HIGHEST}) {
            Edge.refused(Rooms::three, "listed(" + taste + ")", Check.BEYOND, y -> y.listed(taste));
        }
    }

    private static void speaker() {
        Edge.says(5, "A new SPEAKER: the number. BEYOND. FULL.");
        WordSupper x = new WordSupper();
        Edge.is("speaker(0)", x.speaker(0), 0);
        Edge.is("speaker(6)", x.speaker(6), 1);
        Edge.is("of(0, 0)", x.of(0, 0), 0);
        Edge.is("of(1, 0)", x.of(1, 0), 6);
        for (int kind : new int[] {-1, 7, LOWEST, HIGHEST}) {
            Edge.refused(Rooms::nobody, "the first speaker(" + kind + ")", Check.BEYOND, y -> y.speaker(kind));
            Edge.refused(Rooms::eight, "a 9th speaker(" + kind + "), BEYOND ahead of FULL", Check.BEYOND, y -> y.speaker(kind));
        }
    }

    private static void lastSpeaker() {
        Edge.says(Doc.TERMS, "SPEAKERS 0, 1, .. (at most 8)");
        WordSupper x = new WordSupper();
        for (int i = 0; i < 8; i++) {
            Edge.is("speaker " + i, x.speaker(i % 7), i);
        }
        Edge.is("all together", x.count(1), 8);
        Edge.refused(Rooms::eight, "a 9th speaker(0)", Check.FULL, y -> y.speaker(0));
        Edge.refused(Rooms::eight, "a 9th speaker(6)", Check.FULL, y -> y.speaker(6));
    }

    private static void of() {
        Edge.says(6, "Of a SPEAKER: what 0 KIND, 1 whom it LOVES (-1: nobody), 2 FAT, 3 ATE, 4 APPETITE, 5 LEFT, 6 TASTES on its PLATE, as a set. BEYOND.");
        int[] cook = {5, -1, 3, 0, 16, 21, 63};
        int[] last = {2, 0, 99, 99999, 6, 5994, 63};
        int[] empty = {0, 1, 0, 0, 12, 0, 0};
        for (int what = 0; what <= 6; what++) {
            int asked = what;
            Edge.onlyTells(EdgesOfTheTable::ends, "of(0, " + what + ")", cook[what], y -> y.of(0, asked));
            Edge.onlyTells(EdgesOfTheTable::ends, "of(7, " + what + ")", last[what], y -> y.of(7, asked));
            Edge.onlyTells(EdgesOfTheTable::ends, "of(6, " + what + ")", empty[what], y -> y.of(6, asked));
        }
        for (int what : new int[] {-1, 7, LOWEST, HIGHEST}) {
            Edge.refused(Rooms::three, "of(0, " + what + ")", Check.BEYOND, y -> y.of(0, what));
        }
        Some.noSpeaker("of", (y, speaker) -> y.of(speaker, 0));
        Some.noSpeaker("of, LEFT", (y, speaker) -> y.of(speaker, 5));
        Edge.is("a set of the first taste", Check.told("cook plate 1").of(0, 6), 1);
        Edge.is("a set of the last taste", Check.told("cook plate 0 0 0 0 0 999").of(0, 6), 32);
    }

    /** Eight, of whom the last one has all as much as can be. */
    private static WordSupper ends() {
        WordSupper x = Check.told("cook fat 3 plate 1 2 3 4 5 6;cook;cook;cook;cook;cook;speaker loves 1 fat 0;vinegar 4");
        Check.read(x, "child loves 0 fat 99 plate 999 999 999 999 999 999");
        x.change(7, 3, 99999);
        return x;
    }

    private static void changeKind() {
        Edge.says(7, "KIND (what 0)");
        WordSupper x = Rooms.eight();
        Edge.is("change(7, 0, 6)", x.change(7, 0, 6), 0);
        Edge.is("change(7, 0, 0)", x.change(7, 0, 0), 6);
        Edge.is("change(0, 0, 6)", x.change(0, 0, 6), 0);
        refusedChange(0, -1);
        refusedChange(0, 7);
    }

    private static void refusedChange(int what, int v) {
        Edge.refused(Rooms::three, "change(1, " + what + ", " + v + ")", Check.BEYOND, y -> y.change(1, what, v));
    }

    private static void changeLoves() {
        Edge.says(7, "LOVES (1; -1, too; not itself)");
        WordSupper x = Rooms.three();
        Edge.is("change(1, 1, 2)", x.change(1, 1, 2), 0);
        Edge.is("change(1, 1, -1)", x.change(1, 1, -1), 2);
        Edge.is("change(1, 1, -1) again", x.change(1, 1, -1), -1);
        Edge.is("change(1, 1, 0)", x.change(1, 1, 0), -1);
        Edge.is("change(0, 1, 1), each other", x.change(0, 1, 1), -1);
        Edge.is("change(2, 1, 1), two love one", x.change(2, 1, 1), 1);
        for (int v : new int[] {1, -2, 3, 7, 8, LOWEST, HIGHEST}) {
            refusedChange(1, v);
        }
        Edge.refused(Rooms::three, "change(0, 1, 0)", Check.BEYOND, y -> y.change(0, 1, 0));
        Edge.refused(Rooms::eight, "change(7, 1, 7)", Check.BEYOND, y -> y.change(7, 1, 7));
        Edge.refused(Rooms::eight, "change(7, 1, 8)", Check.BEYOND, y -> y.change(7, 1, 8));
        WordSupper eight = Rooms.eight();
        Edge.is("change(7, 1, 6)", eight.change(7, 1, 6), -1);
        Edge.is("change(0, 1, 7)", eight.change(0, 1, 7), -1);
    }

    private static void changeFatAndAte() {
        Edge.says(7, "FAT (2), ATE (3) of a SPEAKER becomes v: what it was. BEYOND.");
        WordSupper x = Check.told("cook");
        Edge.is("change(0, 2, 99)", x.change(0, 2, 99), 50);
        Edge.is("change(0, 2, 0)", x.change(0, 2, 0), 99);
        Edge.is("change(0, 2, 1)", x.change(0, 2, 1), 0);
        Edge.is("change(0, 3, 99999)", x.change(0, 3, 99999), 0);
        Edge.is("change(0, 3, 0)", x.change(0, 3, 0), 99999);
        Edge.is("change(0, 3, 1)", x.change(0, 3, 1), 0);
        for (int v : new int[] {-1, 100, LOWEST, HIGHEST}) {
            refusedChange(2, v);
        }
        for (int v : new int[] {-1, 100000, LOWEST, HIGHEST}) {
            refusedChange(3, v);
        }
    }

    private static void changeOther() {
        Edge.says(7, "becomes v: what it was. BEYOND.");
        for (int what : new int[] {-1, 4, 5, 6, 7, LOWEST, HIGHEST}) {
            refusedChange(what, 0);
        }
        for (int what = 0; what <= 3; what++) {
            int asked = what;
            Some.noSpeaker("change what " + what, (y, speaker) -> y.change(speaker, asked, 0));
        }
    }

    private static void serve() {
        Edge.says(8, "WORDS of a TASTE on the PLATE of a SPEAKER become v (0 to 999): how many they were. BEYOND.");
        for (int speaker : new int[] {0, 7}) {
            for (int taste : new int[] {0, 5}) {
                WordSupper x = Check.told("cook;cook;cook;cook;cook;cook;cook;cook");
                String call = "serve(" + speaker + ", " + taste;
                Edge.is(call + ", 999)", x.serve(speaker, taste, 999), 0);
                Edge.is("left of all behind " + call + ", 999)", x.now(1), 999);
                Edge.is(call + ", 0)", x.serve(speaker, taste, 0), 999);
                Edge.is(call + ", 1)", x.serve(speaker, taste, 1), 0);
            }
        }
        int[][] rows = {{0, -1}, {0, 1000}, {5, -1}, {5, 1000}, {0, LOWEST}, {0, HIGHEST}, {-1, 5}, {6, 5}, {LOWEST, 5}, {HIGHEST, 5}};
        for (int[] row : rows) {
            Edge.refused(Rooms::three, "serve(1, " + row[0] + ", " + row[1] + ")", Check.BEYOND, y -> y.serve(1, row[0], row[1]));
        }
        Some.noSpeaker("serve", (y, speaker) -> y.serve(speaker, 0, 5));
    }

    private static void plate() {
        Edge.says(9, "How many there are. BEYOND.");
        Edge.onlyTells(EdgesOfTheTable::ends, "plate(7, 5)", 999, y -> y.plate(7, 5));
        Edge.onlyTells(EdgesOfTheTable::ends, "plate(0, 0)", 1, y -> y.plate(0, 0));
        Edge.onlyTells(EdgesOfTheTable::ends, "plate(6, 5)", 0, y -> y.plate(6, 5));
        Some.noTaste("plate", (y, taste) -> y.plate(0, taste));
        Some.noSpeaker("plate", (y, speaker) -> y.plate(speaker, 0));
    }

    private static void chews() {
        Edge.says(10, "What a SPEAKER CHEWS for a WORD of a TASTE (-1: it can't be). BEYOND.");
        Edge.onlyTells(EdgesOfTheTable::ends, "chews(0, 0)", 1, y -> y.chews(0, 0));
        Edge.onlyTells(EdgesOfTheTable::ends, "chews(7, 5)", 0, y -> y.chews(7, 5));
        Edge.onlyTells(EdgesOfTheTable::ends, "chews(7, 4)", -1, y -> y.chews(7, 4));
        Edge.onlyTells(EdgesOfTheTable::ends, "chews(7, 2)", -1, y -> y.chews(7, 2));
        Some.noTaste("chews", (y, taste) -> y.chews(0, taste));
        Some.noSpeaker("chews", (y, speaker) -> y.chews(speaker, 0));
    }

    private static void talks() {
        Edge.says(11, "How many WORDS of a TASTE it TALKS today. BEYOND.");
        Edge.onlyTells(EdgesOfTheTable::ends, "talks(7, 2)", 1, y -> y.talks(7, 2));
        Edge.onlyTells(EdgesOfTheTable::ends, "talks(0, 0)", 0, y -> y.talks(0, 0));
        Edge.onlyTells(EdgesOfTheTable::ends, "talks(7, 5)", 0, y -> y.talks(7, 5));
        WordSupper x = Check.told("cook;list 0 20");
        Edge.is("THE LIST is no talk", x.talks(0, 0), 0);
        Some.noTaste("talks", (y, taste) -> y.talks(0, taste));
        Some.noSpeaker("talks", (y, speaker) -> y.talks(speaker, 0));
    }
}
