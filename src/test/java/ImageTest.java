/** Promises 40 to 44: images, counts, status. */
final class ImageTest {
    private ImageTest() {
    }

    static void run() {
        promises40And41();
        whatIsNotKept();
        promise42();
        promise43();
        promise44();
    }

    private static WordSupper full() {
        WordSupper x = Check.told("cook fat 3 plate 1 2 3 4 5 6;liar loves 0 plate 7;saint loves 1;list 1 2;vinegar 4");
        x.hold(2, 1);
        x.hold(7, 0);
        x.go(3);
        x.seed(77);
        return x;
    }

    private static void promises40And41() {
        WordSupper x = full();
        String kept = Check.seen(x);
        Check.due("40: image", x.image(), 1);
        x.change(0, 0, 3);
        x.change(0, 1, 2);
        x.change(1, 2, 88);
        x.change(2, 3, 5);
        x.serve(0, 4, 99);
        x.speaker(6);
        x.list(1, 9);
        x.vinegar(9);
        x.hold(2, -1);
        x.hold(3, 3);
        x.talk(2);
        Check.due("41: it has changed", Check.seen(x).equals(kept) ? 1 : 0, 0);
        Check.due("41: the day that was kept", x.undo(), 3);
        Check.due("41: all as it was kept", Check.seen(x).equals(kept) ? 1 : 0, 1);
        x.go(1);
        Check.due("41: what was kept stays", x.undo(), 3);
        Check.due("41: all as it was kept, again", Check.seen(x).equals(kept) ? 1 : 0, 1);
        Check.read(x, "liar loves 0 fat 9 plate 7 7 7 7 7 7");
        x.change(3, 3, 6);
        x.undo();
        Check.due("41: a new speaker after it", x.speaker(0), 3);
        int[] due = {0, -1, 50, 0, 12, 0, 0};
        for (int what = 0; what <= 6; what++) {
            Check.due("41: of who is new " + what, x.of(3, what), due[what]);
        }
        x.go(2);
        String later = Check.seen(x);
        Check.due("40: a later image", x.image(), 1);
        x.go(2);
        Check.due("41: the latest", x.undo(), 5);
        Check.due("41: all as in the latest", Check.seen(x).equals(later) ? 1 : 0, 1);
    }

    private static void whatIsNotKept() {
        WordSupper x = full();
        Check.feed(x, "co");
        Check.lay(x, 0, 4, 5);
        x.image();
        Check.feed(x, "ok");
        x.write(0, 0, 6);
        x.sheet(1, 8, 2);
        x.of(-1, 0);
        int all = x.status(-1);
        x.undo();
        Check.due("40: the tape isn't kept", x.count(5), 4);
        Check.due("41: nor taken back", x.text(), 1);
        x.load(0);
        Check.due("40: nor are sheets", x.listed(0), 6);
        Check.due("40: the other sheet is there", x.write(1, 0, 1), 1);
        Check.due("44: undo takes no finding back", x.status(-1), all);
    }

    private static void promise42() {
        WordSupper x = full();
        Check.due("42: nothing was kept", x.tear(), 0);
        Check.due("41: nothing is kept", x.undo(), Check.NONE);
        x.image();
        x.image();
        Check.due("42: something was", x.tear(), 1);
        Check.due("42: once", x.tear(), 0);
        Check.due("41: torn", x.undo(), Check.NONE);
        x.image();
        Check.due("41: kept anew", x.undo(), 3);
    }

    private static void promise43() {
        WordSupper x = Check.told("cook fat 3 plate 1 2 3;liar plate 7");
        x.change(0, 3, 40);
        x.change(1, 3, 2);
        x.hold(0, 0);
        x.hold(9, 0);
        x.hold(5, 1);
        Check.feed(x, "abc");
        x.seed(-5);
        int[] due = {0, 2, 13, 42, 53, 3, -5, 3};
        for (int what = 0; what <= 7; what++) {
            Check.due("43: count " + what, x.count(what), due[what]);
        }
        Check.due("43: count -1", x.count(-1), Check.BEYOND);
        Check.due("43: count 8", x.count(8), Check.BEYOND);
        x.go(4);
        Check.due("43: the day", x.count(0), 4);
    }

    private static void promise44() {
        WordSupper x = new WordSupper();
        int[] due = new int[7];
        x.vinegar(10);
        x.sheet(0, 8, 41);
        due[0] = 2;
        for (int i = 0; i < 8; i++) {
            x.speaker(0);
        }
        x.speaker(0);
        due[1] = 1;
        x.hold(0, 0);
        x.as(0, 1);
        x.as(0, 2);
        x.as(0, 5);
        due[2] = 3;
        x.undo();
        due[3] = 1;
        x.as(1, 0);
        x.write(0, 0, 0);
        due[5] = 2;
        x.sheet(0, 0, -1);
        due[6] = 1;
        x.odds(0, 24, 0);
        due[0]++;
        int all = 0;
        for (int which = 0; which < 7; which++) {
            Check.due("44: status " + which, x.status(which), due[which]);
            all += due[which];
        }
        Check.due("44: all", x.status(-1), all);
        Check.due("44: status 7", x.status(7), Check.BEYOND);
        Check.due("44: counted from then on", x.status(0), due[0] + 1);
        Check.due("44: status -2", x.status(-2), Check.BEYOND);
        Check.due("44: counted, too", x.status(-1), all + 2);
    }
}
