import java.util.function.Supplier;

/** The edges of promises 30 to 32: the tape and its texts. */
final class EdgesOfTexts {
    private static final int T = Doc.TERMS;
    private static final String ITEM = "perhaps loves and a NUMBER (a SPEAKER who is there already), perhaps fat and a NUMBER (0 to 99), "
        + "perhaps plate and up to six NUMBERS (at least one; 0 to 999; TASTES 0, 1, ..): a new one";

    private EdgesOfTexts() {
    }

    static void run() {
        feed();
        feedBytes();
        feedToTheEnd();
        wipe();
        allBytes();
        longTokens();
        blanks();
        itemsAndSigns();
        loves();
        fat();
        plate();
        order();
        list();
        vinegar();
        firstFault();
        ninthSpeaker();
        endsTooEarly();
        fullTape();
        faultChangesNothing();
        itemByItem();
    }

    private static void feed() {
        Edge.says(30, "(n 1 to 4): how many it has. BEYOND: n. FULL.");
        WordSupper x = new WordSupper();
        Edge.is("feed(0, 1)", x.feed(0, 1), 1);
        Edge.is("feed(0, 4)", x.feed(0, 4), 5);
        Edge.is("count(5)", x.count(5), 5);
        Some.outside("feed, bytes ", 1, 4, (y, n) -> y.feed(' ', n));
        Edge.refused(Rooms::eight, "feed(0, 0) on a full tape, BEYOND ahead of FULL", Check.BEYOND, y -> y.feed(0, 0));
        Edge.refused(Rooms::eight, "feed(0, 5) on a full tape, BEYOND ahead of FULL", Check.BEYOND, y -> y.feed(0, 5));
    }

    private static void feedBytes() {
        Edge.says(30, "THE TAPE gets the n lowest bytes of a number behind it, the highest of these first");
        String text = "vinegar 7";
        WordSupper x = new WordSupper();
        x.feed(0x76696e65, 4);
        x.feed(0xff676172, 3);
        x.feed(0x7fff2037, 2);
        Edge.is(text, x.text(), 1);
        Edge.is("vinegar behind it", x.vinegar(0), 7);
        x.feed(0x636f6f6b, 4);
        x.feed(0x80000020, 1);
        x.feed(0xffffff3b, 1);
        x.feed(0x6c696172, 4);
        Edge.is("cook ;liar", x.text(), 2);
        Edge.is("the first", x.of(0, 0), 5);
        Edge.is("the second", x.of(1, 0), 6);
        x.feed(0x2020ffff, 3);
        Edge.is("a byte above 127 begins no token", x.text(), -2);
    }

    private static void feedToTheEnd() {
        Edge.says(T, "A TEXT is read from THE TAPE (bytes, at most 120)");
        for (int n = 1; n <= 4; n++) {
            int last = n;
            WordSupper x = with(120 - n);
            Edge.is("feed of " + n + " bytes behind " + (120 - n), x.feed(0, n), 120);
            Edge.is("one byte more", x.feed(0, 1), Check.FULL);
            Edge.is("count(5)", x.count(5), 120);
            Edge.refused(() -> with(121 - last), "feed of " + n + " bytes behind " + (121 - n), Check.FULL, y -> y.feed(0x20202020, last));
            Edge.refused(Rooms::eight, "feed of " + n + " bytes behind 120", Check.FULL, y -> y.feed(0x20202020, last));
        }
    }

    /** So many bytes on the tape, a cook's text ahead. */
    private static WordSupper with(int bytes) {
        WordSupper x = new WordSupper();
        Check.feed(x, String.format("%-" + bytes + "s", "cook"));
        return x;
    }

    private static void wipe() {
        Edge.says(31, "THE TAPE is empty: how many it had.");
        WordSupper x = with(120);
        Edge.is("wipe of a full tape", x.wipe(), 120);
        Edge.is("wipe of an empty tape", x.wipe(), 0);
        Edge.is("count(5)", x.count(5), 0);
        Edge.is("text()", x.text(), -1);
        Edge.is("feed behind it", x.feed('c', 1), 1);
        Edge.is("text() behind it", x.text(), -1);
        Edge.is("status(-1)", x.status(-1), 0);
    }

    /** What each of all bytes makes of a text, ahead of it, within it and behind it. */
    private static void allBytes() {
        Edge.says(T, "WORDS (letters a to z), NUMBERS (digits, 999 at most), SIGN ; ; blanks may stand between.");
        for (int b = 0; b < 256; b++) {
            boolean isLetter = b >= 97 && b <= 122;
            boolean isDigit = b >= 48 && b <= 57;
            int behind = isLetter ? -1 : b == 32 ? 1 : b == 59 ? -6 : -5;
            Edge.is("cook and byte " + b, Check.read(new WordSupper(), "cook" + (char) b), behind);
            Edge.is("byte " + b + " and cook", Check.read(new WordSupper(), (char) b + "cook"), b == 32 ? 1 : -1);
            int number = isDigit ? -8 : b == 32 ? 1 : b == 59 ? -10 : -9;
            Edge.is("vinegar4 and byte " + b, Check.read(new WordSupper(), "vinegar4" + (char) b), number);
            int within = isDigit ? -6 : b == 32 ? 1 : -7;
            Edge.is("list 5, byte " + b + " and 7", Check.read(new WordSupper(), "list 5" + (char) b + "7"), within);
        }
    }

    private static void longTokens() {
        Edge.says(T, "TOKENS, each as long as can be");
        reads("list5 9", 1);
        reads("vinegar9", 1);
        reads("cook fat9plate9 9", 1);
        reads("cook;liar loves0fat0plate0", 2);
        fault("cookliar", 0);
        fault("cookfat 1", 0);
        fault("cook fatplate 1", 5);
        fault("list05", 6);
        fault("list 55", 5);
        fault("vinegar99", 7);
        fault("cook plate99999", 10);
        Edge.says(T, "NUMBERS (digits, 999 at most)");
        reads("cook plate 999 999", 1);
        for (String number : new String[] {"1000", "9999", "32768", "65536", "2147483648", "4294967296", "4294967301", "18446744073709551616", "99999999999999999999999999"}) {
            fault("cook plate " + number, 11);
            fault("cook plate 1 " + number, 13);
            fault("vinegar " + number, 8);
            fault("list " + number + " 1", 5);
            fault("cook fat " + number, 9);
            fault("cook;cook loves " + number, 16);
        }
    }

    private static void reads(String text, int items) {
        WordSupper x = new WordSupper();
        Edge.is("text() of \"" + text + "\"", Check.read(x, text), items);
        Edge.is("status(-1) behind \"" + text + "\"", x.status(-1), 0);
        Edge.is("count(5) behind \"" + text + "\"", x.count(5), 0);
    }

    private static void fault(String text, int place) {
        fault(WordSupper::new, text, place);
    }

    /** A text with a fault does what wiping the tape does, and is no finding. */
    private static void fault(Supplier<WordSupper> room, String text, int place) {
        WordSupper asked = room.get();
        WordSupper twin = room.get();
        Edge.is("text() of \"" + text + "\"", Check.read(asked, text), -1 - place);
        Check.feed(twin, text);
        twin.wipe();
        for (int which = -1; which <= 6; which++) {
            Edge.is("status(" + which + ") behind \"" + text + "\"", asked.status(which), twin.status(which));
        }
        Edge.is("what is changed by \"" + text + "\"", Rooms.all(asked).equals(Rooms.all(twin)) ? 0 : 1, 0);
    }

    private static void blanks() {
        Edge.says(T, "blanks may stand between");
        reads(" cook", 1);
        reads("cook ", 1);
        reads("   cook   ;   liar   loves   0   ", 2);
        reads("  list  0  1  ;  vinegar  1  ", 2);
        fault("co ok", 0);
        fault("c ook", 0);
        WordSupper x = Check.told("cook plate 9 9");
        Edge.is("a blank parts two numbers", x.plate(0, 1), 9);
        WordSupper y = Check.told("cook plate 99");
        Edge.is("none, one number", y.plate(0, 0) + y.plate(0, 1), 99);
    }

    private static void itemsAndSigns() {
        Edge.says(T, "TEXT: ITEM { ; ITEM }.");
        reads("cook", 1);
        reads("cook;cook", 2);
        fault(";", 0);
        fault(" ;cook", 1);
        fault("cook;;cook", 5);
        fault("cook; ;cook", 6);
        fault("cook cook", 5);
        fault("cook list 0 1", 5);
        fault("vinegar 1 cook", 10);
        fault("list 0 1 cook", 9);
        Edge.says(T, "ITEM: speaker, lawyer, child, saint, reader, cook or liar");
        String[] words = {"speaker", "lawyer", "child", "saint", "reader", "cook", "liar"};
        for (int kind = 0; kind < 7; kind++) {
            WordSupper x = new WordSupper();
            Edge.is(words[kind], Check.read(x, words[kind]), 1);
            Edge.is("its kind", x.of(0, 0), kind);
            Edge.is("it loves", x.of(0, 1), -1);
            Edge.is("its fat", x.of(0, 2), 50);
            Edge.is("it ate", x.of(0, 3), 0);
            Edge.is("its plate", x.of(0, 5), 0);
            fault(words[kind].substring(1), 0);
            fault(words[kind].substring(0, words[kind].length() - 1), 0);
            fault(words[kind] + "s", 0);
            fault("cook;" + words[kind] + "a", 5);
        }
        for (String word : new String[] {"loves", "fat", "plate", "lists", "lis", "ist", "vinegars", "vinega", "inegar", "cream", "a", "z", "words"}) {
            fault(word + " 0", 0);
        }
        fault("0", 0);
    }

    private static void loves() {
        Edge.says(T, ITEM);
        fault("cook loves 0", 11);
        reads("cook;cook loves 0", 2);
        fault("cook;cook loves 1", 16);
        fault("cook;cook loves 2;cook", 16);
        reads("cook;cook;cook loves 1", 3);
        fault("cook;cook;cook loves 2", 21);
        fault("cook;cook loves", 15);
        fault("cook;cook loves ;", 16);
        fault("cook;cook loves fat 1", 16);
        fault("cook;cook loves 0 0", 18);
        fault("cook;cook loves 0 loves 0", 18);
        WordSupper x = Rooms.three();
        x.wipe();
        Edge.is("who was there ahead of the text", Check.read(x, "cook loves 2"), 1);
        Edge.is("it loves", x.of(3, 1), 2);
        fault(Rooms::emptyTape, "cook loves 3", 11);
        WordSupper y = Rooms.three();
        y.wipe();
        Edge.is("the last of eight", Check.read(y, "cook;cook;cook;cook;cook loves 6"), 5);
        Edge.is("the last of eight loves", y.of(7, 1), 6);
    }

    private static void fat() {
        Edge.says(T, "perhaps fat and a NUMBER (0 to 99)");
        Edge.is("fat 0", Check.told("cook fat 0").of(0, 2), 0);
        Edge.is("fat 99", Check.told("cook fat 99").of(0, 2), 99);
        fault("cook fat 100", 9);
        fault("cook fat 999", 9);
        fault("cook fat", 8);
        fault("cook fat ", 9);
        fault("cook fat ;", 9);
        fault("cook fat plate 1", 9);
        fault("cook fat 1 1", 11);
        fault("cook fat 1 fat 1", 11);
    }

    private static void plate() {
        Edge.says(T, "perhaps plate and up to six NUMBERS (at least one; 0 to 999; TASTES 0, 1, ..)");
        StringBuilder text = new StringBuilder("cook plate");
        for (int numbers = 1; numbers <= 6; numbers++) {
            text.append(' ').append(993 + numbers);
            WordSupper x = Check.told(text.toString());
            for (int taste = 0; taste < 6; taste++) {
                Edge.is("taste " + taste + " of " + text, x.plate(0, taste), taste < numbers ? 994 + taste : 0);
            }
        }
        fault(text + " 1", text.length() + 1);
        fault(text + " 1000", text.length() + 1);
        fault("cook plate 1 2 3 4 5 1000", 21);
        fault("cook plate", 10);
        fault("cook plate  ", 12);
        fault("cook plate ;", 11);
        fault("cook plate fat 1", 11);
        fault("cook plate 1000", 11);
        fault("cook plate 1 plate 1", 13);
        Edge.is("plate 0", Check.told("cook plate 0 0 0 0 0 0").of(0, 5), 0);
        Edge.is("plate 999", Check.told("cook plate 999 999 999 999 999 999").of(0, 5), 5994);
    }

    private static void order() {
        Edge.says(T, ITEM);
        reads("cook;cook loves 0 fat 1 plate 1", 2);
        reads("cook;cook loves 0 plate 1", 2);
        reads("cook;cook fat 1 plate 1", 2);
        reads("cook;cook loves 0 fat 1", 2);
        fault("cook;cook fat 1 loves 0", 16);
        fault("cook;cook plate 1 loves 0", 18);
        fault("cook;cook plate 1 fat 1", 18);
        fault("cook;cook plate 1 2 3 4 5 6 fat 1", 28);
    }

    private static void list() {
        Edge.says(T, "list, two NUMBERS (a TASTE, 0 to 20)");
        for (int taste : new int[] {0, 5}) {
            for (int words : new int[] {0, 20}) {
                WordSupper x = new WordSupper();
                x.list(taste, 7);
                Edge.is("list " + taste + " " + words, Check.read(x, "list " + taste + " " + words), 1);
                Edge.is("listed(" + taste + ")", x.listed(taste), words);
                Edge.is("listed(2)", x.listed(2), 0);
            }
        }
        fault("list 6 1", 5);
        fault("list 0 21", 7);
        fault("list 6 21", 5);
        fault("list", 4);
        fault("list ", 5);
        fault("list 0", 6);
        fault("list 0;", 6);
        fault("list 0 0 0", 9);
        fault("list list", 5);
        fault("list 0 list", 7);
    }

    private static void vinegar() {
        Edge.says(T, "vinegar, a NUMBER (0 to 9)");
        for (int v : new int[] {0, 9}) {
            WordSupper x = new WordSupper();
            Edge.is("vinegar " + v, Check.read(x, "vinegar " + v), 1);
            Edge.is("vinegar behind it", x.vinegar(5), v);
        }
        fault("vinegar 10", 8);
        fault("vinegar", 7);
        fault("vinegar;", 7);
        fault("vinegar 1 1", 10);
        fault("vinegar x", 8);
    }

    private static void firstFault() {
        Edge.says(T, "FAULT: the place (from 0) of the first byte of the first TOKEN that can't stand there "
            + "(a NUMBER that isn't as told, another WORD, a byte that begins no TOKEN");
        fault("x;#;cook fat 100", 0);
        fault("cook;#;cook fat 100", 5);
        fault("cook;cook fat 100;x", 14);
        fault("cook fat  100", 10);
        fault("cook   monk", 7);
        fault("cook  #", 6);
        fault("cook;  12", 7);
        fault("cook fat 5x", 10);
        fault("cook fat x5", 9);
        fault("cook plate 1 2 x", 15);
        fault("list 0 1x", 8);
        for (String word : new String[] {"speaker", "lawyer", "child", "saint", "reader", "cook", "liar", "list 0 1", "vinegar 1", "cook fat 1", "cook plate 1"}) {
            fault("x" + word.substring(1), 0);
            fault("cook;" + word + "#", 5 + word.length());
        }
        fault("cook xat 1", 5);
        fault("cook xlate 1", 5);
        fault("cook;cook xoves 0", 10);
    }

    private static void ninthSpeaker() {
        Edge.says(T, "the WORD of a 9th SPEAKER: its own");
        reads("cook;cook;cook;cook;cook;cook;cook;cook", 8);
        fault("cook;cook;cook;cook;cook;cook;cook;cook;cook", 40);
        fault("cook;cook;cook;cook;cook;cook;cook;cook;cook loves 9", 40);
        fault("cook;cook;cook;cook;cook;cook;cook;cook; x", 41);
        reads("cook;cook;cook;cook;cook;cook;cook;cook;vinegar 1", 9);
        fault(Rooms::emptyTape, "cook;cook;cook;cook;cook;liar", 25);
        WordSupper x = Rooms.emptyTape();
        Edge.is("five more than three", Check.read(x, "cook;cook;cook;cook;liar"), 5);
        Edge.is("eight", x.count(1), 8);
        Edge.is("a list with eight", Check.read(x, "list 0 1"), 1);
        Edge.is("one more", Check.read(x, "list 0 2;saint"), -10);
        Edge.is("THE LIST stays", x.listed(0), 1);
    }

    private static void endsTooEarly() {
        Edge.says(T, "or how many bytes there are if it ends too early");
        fault("", 0);
        fault(" ", 1);
        fault("    ", 4);
        fault("cook;", 5);
        fault("cook;   ", 8);
        fault("cook;liar loves", 15);
        fault("cook;liar loves  ", 17);
        fault("list 1  ", 8);
        fault("vinegar  ", 9);
    }

    private static void fullTape() {
        Edge.says(T, "A TEXT is read from THE TAPE (bytes, at most 120)");
        String most = "cook;".repeat(8) + "list0 0;".repeat(9) + "vinegar9";
        Edge.is("bytes of the text with most items", most.length(), 120);
        reads(most, 18);
        fault(most.substring(0, 119) + ";", 119);
        fault("cook;".repeat(8) + "list0 0;".repeat(10), 120);
        fault(" ".repeat(120), 120);
        fault(" ".repeat(119) + "x", 119);
        fault("a".repeat(120), 0);
        fault("9".repeat(120), 0);
        fault("vinegar " + "9".repeat(112), 8);
        reads(" ".repeat(116) + "cook", 1);
    }

    private static void faultChangesNothing() {
        Edge.says(32, "With a FAULT: -1 less the FAULT (nothing changes but that THE TAPE is empty; no finding).");
        fault(Rooms::emptyTape, "vinegar 1;list 0 1;list 5 20;liar loves 0 fat 1 plate 1 2 3 4 5 6;#", 66);
        fault(Rooms::emptyTape, "saint plate 9;vinegar 0;", 24);
        fault(Rooms::emptyTape, "", 0);
        WordSupper x = new WordSupper();
        Edge.is("a fault", Check.read(x, "cook plate 1 2 3 4 5 6;cook loves 0 fat 3 plate 9;x"), -51);
        x.speaker(1);
        x.speaker(1);
        Edge.is("who comes then has nothing on the plate", x.of(1, 6), 0);
        Edge.is("and loves nobody", x.of(1, 1), -1);
        Edge.is("and has fat 50", x.of(1, 2), 50);
    }

    private static void itemByItem() {
        Edge.says(32, "THE TAPE is a TEXT, and empty then; all that it tells is so, item by item: how many ITEMS.");
        WordSupper x = new WordSupper();
        Edge.is("twice a taste, twice vinegar", Check.read(x, "list 3 20;vinegar 9;list 3 0;list 3 4;vinegar 2"), 5);
        Edge.is("listed(3)", x.listed(3), 4);
        Edge.is("vinegar", x.vinegar(2), 2);
        Edge.is("the tape is empty", x.wipe(), 0);
        Edge.is("text() again", x.text(), -1);
        Edge.is("day", x.now(0), 0);
        Edge.is("z", x.count(6), 1);
        WordSupper y = Rooms.emptyTape();
        int day = y.now(0);
        int held = y.count(7);
        Edge.is("a text on a table that is there", Check.read(y, "reader plate 0 0 0 0 0 8"), 1);
        Edge.is("the day stays", y.now(0), day);
        Edge.is("spots stay", y.count(7), held);
        Edge.is("the new one's plate", y.plate(3, 5), 8);
        Edge.is("what was kept stays", y.undo(), 0);
        Edge.is("without the new one", y.count(1), 3);
    }
}
