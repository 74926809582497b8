/** Promises 12 to 18: days, and what will be. */
final class DaysTest {
    private DaysTest() {
    }

    static void run() {
        promise12();
        whoSaysTheList();
        suppers();
        lovesAtSupper();
        fatAndAte();
        promise13();
        promise14();
        promise15();
        promise16();
        promise17();
        promise18();
    }

    private static void promise12() {
        WordSupper x = new WordSupper();
        Check.due("12: go 0", x.go(0), Check.BEYOND);
        Check.due("12: go 61", x.go(61), Check.BEYOND);
        Check.due("12: go -1", x.go(-1), Check.BEYOND);
        Check.due("12: no day went by", x.now(0), 0);
        Check.due("12: go 60", x.go(60), 0);
        Check.due("12: sixty days", x.now(0), 60);
        Check.due("12: go 1", x.go(1), 0);
        Check.due("12: one day more", x.now(0), 61);
        WordSupper y = Check.told("saint;cook plate 30 0 0 0 2");
        Check.due("12: left of all", y.go(1), 19);
        Check.due("12: left of all, two days more", y.go(2), 2);
    }

    /** The list is said by the speaker of the number DAY modulo 8, if there is one. */
    private static void whoSaysTheList() {
        WordSupper x = Check.told("cook;cook;cook;list 4 5;list 1 0");
        int[][] due = {{5, 0, 0}, {5, 5, 0}, {5, 5, 5}, {5, 5, 5}, {5, 5, 5}, {5, 5, 5}, {5, 5, 5}, {5, 5, 5}, {10, 5, 5}};
        for (int day = 0; day < due.length; day++) {
            x.go(1);
            for (int speaker = 0; speaker < 3; speaker++) {
                Check.due("12: lies of " + speaker + " on day " + day, x.plate(speaker, 4), due[day][speaker]);
            }
        }
        x.serve(0, 4, 990);
        x.list(4, 20);
        x.go(8);
        Check.due("12: 999 of a taste at most", x.plate(0, 4), 999);
        WordSupper y = Check.told("speaker plate 999 0 0 0 999;list 0 20;list 4 20");
        Check.due("12: said words above 999 are gone ahead of supper", y.go(1), 999 - 12 + 999);
    }

    private static void suppers() {
        WordSupper x = Check.told("speaker plate 0 0 0 4");
        Check.due("12: one cream, two promises with twelve bites", x.go(1), 2);
        Check.due("12: three words", x.of(0, 3), 3);
        WordSupper y = Check.told("cook plate 3 2 1 1 1 9");
        // 13 bites: 3 for cream, 6 for the retorts, 4 left: none for what is hard, one promise, no lie, all pears.
        Check.due("12: what bites are enough for", y.go(1), 2);
        Check.due("12: which tastes stay", y.of(0, 6), 0b010100);
        WordSupper z = Check.told("cook fat 0 plate 13 0 0 0 0 7");
        Check.due("12: pears take no bites", z.go(1), 0);
        WordSupper r = Check.told("reader plate 5 0 0 0 0 3");
        // 10 bites and three promises said: five creams take all; then nothing is left for pears.
        Check.due("12: the reader chews pears", r.go(1), 6);
        WordSupper c = Check.told("child plate 0 0 3 3");
        // 6 bites: one cream, nothing hard (four of these), one promise.
        Check.due("12: a child leaves what is hard", c.go(1), 6);
        Check.due("12: how many hard", c.plate(0, 2), 4);
    }

    private static void lovesAtSupper() {
        WordSupper x = Check.told("cook;cook plate 20;cook");
        x.change(0, 1, 1);
        Check.due("12: love eats along", x.go(1), 0);
        Check.due("12: the first ate", x.of(0, 3), 13);
        Check.due("12: the second ate", x.of(1, 3), 7);
        WordSupper y = Check.told("cook plate 0 0 0 2;cook plate 30 0 0 0 3 4");
        y.change(0, 1, 1);
        // The first has 13 - 8 bites left for the other's plate, and takes the pears.
        Check.due("12: the bites that are left", y.go(1), 30 - 5 - 13 + 3);
        Check.due("12: it ate the pears", y.of(0, 3), 2 + 5 + 4);
        WordSupper z = Check.told("child;cook plate 0 0 9");
        z.change(0, 1, 1);
        z.go(1);
        Check.due("12: by the eater's teeth", z.plate(1, 2), 7);
        WordSupper s = Check.told("saint;cook plate 50");
        s.change(0, 1, 1);
        Check.due("12: a saint before a clean plate", s.go(1), 50 - 26 - 13);
        WordSupper f = Check.told("cook;saint plate 5;cook plate 40");
        f.change(0, 1, 1);
        f.change(1, 1, 2);
        Check.due("12: its plate is eaten clean ahead of its turn", f.go(1), 40 - 26 - 13);
    }

    private static void fatAndAte() {
        int[][] rows = {
            // fat, creams on a cook's plate (13 bites), fat then
            {50, 0, 48}, {50, 3, 48}, {50, 4, 49}, {50, 8, 50}, {50, 11, 50}, {50, 12, 51}, {50, 99, 51},
            {99, 12, 97}, {98, 12, 97}, {97, 12, 97}, {96, 12, 97}, {1, 0, 0}, {0, 0, 0}, {2, 0, 0}, {0, 4, 0}, {0, 12, 1},
        };
        for (int[] row : rows) {
            WordSupper x = Check.told("cook fat " + row[0] + " plate " + row[1]);
            x.go(1);
            Check.due("12: fat " + row[0] + " and " + row[1] + " words", x.of(0, 2), row[2]);
            Check.due("12: ate " + row[1], x.of(0, 3), Math.min(13, row[1]));
        }
        WordSupper y = Check.told("cook plate 2;cook plate 2");
        y.change(0, 1, 1);
        y.go(1);
        Check.due("12: the words of both plates count together", y.of(0, 2), 49);
        y.change(1, 3, 99998);
        y.serve(1, 0, 20);
        y.go(1);
        Check.due("12: ate 99999 at most", y.of(1, 3), 99999);
    }

    private static void promise13() {
        WordSupper x = new WordSupper();
        int[] none = {0, 0, 0, 0, 0, -1, 0};
        for (int what = 0; what <= 6; what++) {
            Check.due("13: now " + what + " with nobody", x.now(what), none[what]);
        }
        Check.read(x, "cook fat 7;child loves 0 plate 3 0 0 0 1;liar loves 0 fat 9 plate 4;saint loves 2 fat 1");
        x.change(1, 3, 40);
        x.change(3, 3, 2);
        int[] due = {0, 8, 0b1001, 67, 42, 1, 0b0101};
        for (int what = 0; what <= 6; what++) {
            Check.due("13: now " + what, x.now(what), due[what]);
        }
        x.serve(2, 0, 5);
        Check.due("13: most left", x.now(5), 2);
        x.change(2, 1, 3);
        Check.due("13: all but one are loved", x.now(6), 0b1101);
        x.change(0, 1, 1);
        Check.due("13: all are loved", x.now(6), 0b1111);
        Check.due("13: now -1", x.now(-1), Check.BEYOND);
        Check.due("13: now 7", x.now(7), Check.BEYOND);
        WordSupper y = Check.told("cook;cook");
        Check.due("13: all are clean, the least has most", y.now(5), 0);
        Check.due("13: all are clean", y.now(2), 3);
        y.go(3);
        Check.due("13: the day", y.now(0), 3);
    }

    private static void promise14() {
        WordSupper x = Check.told("speaker plate 30");
        // Each day one cream more and twelve gone: 19, 8, 0, 0, ..
        int[] left = {30, 19, 8, 0, 0};
        int[] ate = {0, 12, 24, 33, 34};
        int[] fat = {50, 51, 52, 52, 50};
        for (int n = 0; n < left.length; n++) {
            Check.due("14: left ahead " + n, x.ahead(0, 5, n), left[n]);
            Check.due("14: ate ahead " + n, x.ahead(0, 3, n), ate[n]);
            Check.due("14: fat ahead " + n, x.ahead(0, 2, n), fat[n]);
        }
        Check.due("14: ahead 100", x.ahead(0, 3, 100), 130);
        Check.due("14: ahead 101", x.ahead(0, 3, 101), Check.BEYOND);
        Check.due("14: ahead -1", x.ahead(0, 3, -1), Check.BEYOND);
        for (int what : new int[] {-1, 0, 1, 4, 6, 7}) {
            Check.due("14: ahead of " + what, x.ahead(0, what, 1), Check.BEYOND);
        }
        Check.due("14: ahead of no speaker", x.ahead(1, 5, 1), Check.BEYOND);
        Check.due("14: ahead of speaker -1", x.ahead(-1, 5, 1), Check.BEYOND);
        Check.due("14: nothing changes", x.of(0, 5), 30);
        Check.due("14: no day went by", x.now(0), 0);
    }

    private static void promise15() {
        WordSupper x = Check.told("speaker plate 30 0 0 0 3;list 4 2");
        Check.due("15: served 0", x.served(0, 4, 0), 3);
        Check.due("15: served 1", x.served(0, 4, 1), 5);
        Check.due("15: served 8", x.served(0, 4, 8), 5);
        Check.due("15: served 9", x.served(0, 4, 9), 7);
        Check.due("15: served 100", x.served(0, 4, 100), 3 + 13 * 2);
        Check.due("15: cream", x.served(0, 0, 2), 8);
        Check.due("15: served 101", x.served(0, 4, 101), Check.BEYOND);
        Check.due("15: served -1", x.served(0, 4, -1), Check.BEYOND);
        Check.due("15: taste 6", x.served(0, 6, 1), Check.BEYOND);
        Check.due("15: taste -1", x.served(0, -1, 1), Check.BEYOND);
        Check.due("15: no speaker", x.served(1, 0, 1), Check.BEYOND);
        Check.due("15: nothing changes", x.plate(0, 4), 3);
    }

    private static void promise16() {
        WordSupper x = Check.told("speaker plate 30;cook;cook plate 0 0 0 0 1;speaker plate 999 102");
        Check.due("16: clean in three days", x.clean(0), 3);
        Check.due("16: clean now", x.clean(1), 0);
        Check.due("16: never clean", x.clean(2), Check.NONE);
        Check.due("16: no speaker", x.clean(4), Check.BEYOND);
        Check.due("16: speaker -1", x.clean(-1), Check.BEYOND);
        Check.due("16: nothing changes", x.now(0), 0);
        WordSupper y = Check.told("cook plate 999");
        Check.due("16: 999 creams, thirteen a day", y.clean(0), 77);
        WordSupper z = Check.told("cook plate 0 400;vinegar 0");
        Check.due("16: a hundred days", z.clean(0), 100);
        z.serve(0, 1, 401);
        Check.due("16: more than a hundred days", z.clean(0), Check.NONE);
    }

    private static void promise17() {
        WordSupper x = Check.told("speaker plate 0 0 0 0 3;list 4 2;cook plate 999 999 999 999 999");
        Check.due("17: now", x.when(0, 0), 0);
        Check.due("17: as many as there are", x.when(0, 3), 0);
        Check.due("17: one more", x.when(0, 4), 1);
        Check.due("17: two more", x.when(0, 5), 1);
        Check.due("17: three more", x.when(0, 6), 9);
        Check.due("17: at the end", x.when(0, 29), 97);
        Check.due("17: too many", x.when(0, 30), Check.NONE);
        Check.due("17: 4995", x.when(1, 4995), 0);
        Check.due("17: 5000", x.when(1, 5000), Check.NONE);
        Check.due("17: 5001", x.when(1, 5001), Check.BEYOND);
        Check.due("17: -1", x.when(1, -1), Check.BEYOND);
        Check.due("17: no speaker", x.when(2, 0), Check.BEYOND);
        Check.due("17: speaker -1", x.when(-1, 0), Check.BEYOND);
        Check.due("17: nothing changes", x.of(0, 5), 3);
    }

    private static void promise18() {
        WordSupper x = Check.told("cook;cook fat 0;cook fat 99 plate 999;lawyer fat 99 plate 0 999");
        Check.due("18: two a day", x.thin(0), 25);
        Check.due("18: thin now", x.thin(1), 0);
        // 13 creams a day: one more a day, 77 days to 999; 99 at most, less 2; then 2 less a day.
        Check.due("18: fat as long as there is cream", x.thin(2), Check.NONE);
        x.change(2, 2, 40);
        x.serve(2, 0, 0);
        Check.due("18: twenty days", x.thin(2), 20);
        x.change(2, 2, 39);
        Check.due("18: an odd fat", x.thin(2), 20);
        Check.due("18: no speaker", x.thin(4), Check.BEYOND);
        Check.due("18: speaker -1", x.thin(-1), Check.BEYOND);
        Check.due("18: nothing changes", x.of(0, 2), 50);
    }
}
