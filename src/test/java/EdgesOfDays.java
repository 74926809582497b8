/** The edges of promises 12 to 18: days, and what will be. */
final class EdgesOfDays {
    private EdgesOfDays() {
    }

    static void run() {
        go();
        lastDay();
        dayStaysAtItsEnd();
        now();
        mostLeft();
        nowSets();
        ahead();
        aheadChangesNothing();
        served();
        clean();
        when();
        whenByWords();
        thin();
        thinBehindMuch();
    }

    private static void go() {
        Edge.says(12, "n DAYS (1 to 60): LEFT of all together then. BEYOND.");
        WordSupper x = Check.told("cook plate 40 0 0 0 2;saint plate 0 0 0 0 0 1");
        Edge.is("go(1)", x.go(1), 40 - 13 + 2);
        Edge.is("the day behind go(1)", x.now(0), 1);
        Edge.is("go(60)", x.go(60), 2);
        Edge.is("the day behind go(60)", x.now(0), 61);
        WordSupper nobody = new WordSupper();
        Edge.is("go(60) with nobody", nobody.go(60), 0);
        Edge.is("the day with nobody", nobody.now(0), 60);
        WordSupper full = Check.told("child;child;child;child;child;child;child;child");
        for (int speaker = 0; speaker < 8; speaker++) {
            for (int taste = 0; taste < 6; taste++) {
                full.serve(speaker, taste, 999);
            }
        }
        // Each says a cream and a hard word that don't go in, and takes six creams and all pears.
        Edge.is("go(1) with all plates full", full.go(1), 8 * (5 * 999 - 6));
        Some.outside("go ", 1, 60, (y, n) -> y.go(n));
    }

    /** Behind 512 calls all is free, but no fewer reach the last day: 60 days a call. */
    private static WordSupper onDay99939(String text) {
        WordSupper x = Check.told(text);
        for (int call = 0; call < 1665; call++) {
            x.go(60);
        }
        x.go(39);
        return x;
    }

    private static void lastDay() {
        Edge.says(12, "STATE: DAY would be above 99999.");
        Edge.refused(() -> onDay99940(), "go(60) on day 99940", Check.STATE, x -> x.go(60));
        Edge.refused(() -> onDay99940(), "go(61) on day 99940, BEYOND ahead of STATE", Check.BEYOND, x -> x.go(61));
        Edge.refused(() -> onDay99940(), "go(0) on day 99940, BEYOND ahead of STATE", Check.BEYOND, x -> x.go(0));
        WordSupper y = onDay99939("cook");
        Edge.is("go(60) on day 99939", y.go(60), 0);
        Edge.is("the day", y.now(0), 99999);
        Edge.is("go(1) on day 99999", y.go(1), Check.STATE);
        Edge.is("status(4)", y.status(4), 1);
        Edge.says(27, "STATE: DAY would be above 99999.");
        Edge.refused(() -> onDay99980(), "talk(20) on day 99980", Check.STATE, x -> x.talk(20));
        Edge.refused(() -> onDay99980(), "talk(21) on day 99980, BEYOND ahead of STATE", Check.BEYOND, x -> x.talk(21));
        WordSupper z = onDay99980();
        z.talk(19);
        Edge.is("the day behind talk(19) on day 99980", z.now(0), 99999);
        Edge.is("talk(1) on day 99999", z.talk(1), Check.STATE);
    }

    private static WordSupper onDay99940() {
        WordSupper x = onDay99939("cook;list 4 2");
        x.go(1);
        return x;
    }

    private static WordSupper onDay99980() {
        WordSupper x = onDay99939("cook;list 4 2");
        x.go(41);
        return x;
    }

    private static void dayStaysAtItsEnd() {
        Edge.says(Doc.TERMS, "DAY is one more (99999 at most)");
        WordSupper x = onDay99939("saint;child");
        x.go(60);
        x.serve(1, 2, 0);
        // 99999 is a multiple of 3, and no day comes behind it.
        Edge.is("hard words behind one day", x.served(1, 2, 1), 1);
        Edge.is("hard words behind seven days", x.served(1, 2, 7), 7);
        x.serve(1, 2, 0);
        Edge.is("when seven are left", x.when(1, 7), 7);
    }

    private static void now() {
        Edge.says(13, "What 0 DAY, 1 LEFT of all together, 2 SPEAKERS with CLEAN PLATES, as a set, 3 FAT of all together, 4 ATE of all together");
        int[] nobody = {0, 0, 0, 0, 0, -1, 0};
        for (int what = 0; what <= 6; what++) {
            int asked = what;
            Edge.onlyTells(Rooms::nobody, "now(" + what + ") with nobody", nobody[what], y -> y.now(asked));
        }
        int[] full = {0, 8 * 5994, 0, 8 * 99, 8 * 99999, 0, 255};
        for (int what = 0; what <= 6; what++) {
            int asked = what;
            Edge.onlyTells(EdgesOfDays::fullTable, "now(" + what + ") with all that can be", full[what], y -> y.now(asked));
        }
        Edge.says(13, "6 SPEAKERS whom another one LOVES, as a set. BEYOND.");
        Some.outside("now ", 0, 6, (y, what) -> y.now(what));
        Some.refused(Rooms::nobody, "with nobody now ", (y, what) -> y.now(what), -1, 7);
    }

    /** Eight who have all as much as can be; each loves the next one. */
    private static WordSupper fullTable() {
        WordSupper x = Check.told("cook;cook;cook;cook;cook;cook;cook;cook");
        for (int speaker = 0; speaker < 8; speaker++) {
            for (int taste = 0; taste < 6; taste++) {
                x.serve(speaker, taste, 999);
            }
            x.change(speaker, 1, (speaker + 1) % 8);
            x.change(speaker, 2, 99);
            x.change(speaker, 3, 99999);
        }
        return x;
    }

    private static void mostLeft() {
        Edge.says(13, "5 who has most LEFT (-1: there are none)");
        WordSupper x = new WordSupper();
        Edge.is("with nobody", x.now(5), -1);
        x.speaker(0);
        Edge.is("one with a clean plate", x.now(5), 0);
        x.speaker(0);
        Edge.is("two with clean plates", x.now(5), 0);
        x.serve(1, 5, 1);
        Edge.is("the last one has a word", x.now(5), 1);
        x.serve(0, 0, 1);
        Edge.is("both have a word", x.now(5), 0);
        WordSupper eight = Check.told("cook;cook;cook;cook;cook;cook;cook plate 6;cook plate 3 4");
        Edge.is("the 8th has most", eight.now(5), 7);
        eight.serve(6, 5, 1);
        Edge.is("the 7th and the 8th have most", eight.now(5), 6);
    }

    private static void nowSets() {
        Edge.says(13, "2 SPEAKERS with CLEAN PLATES, as a set");
        WordSupper x = Check.told("cook;cook;cook;cook;cook;cook;cook;cook");
        Edge.is("all are clean", x.now(2), 255);
        x.serve(7, 5, 1);
        Edge.is("all but the last one", x.now(2), 127);
        x.serve(0, 0, 1);
        Edge.is("all but the first and the last one", x.now(2), 126);
        Edge.says(13, "6 SPEAKERS whom another one LOVES, as a set.");
        Edge.is("nobody is loved", x.now(6), 0);
        x.change(0, 1, 7);
        Edge.is("the last one is loved", x.now(6), 128);
        x.change(1, 1, 7);
        Edge.is("the last one is loved by two", x.now(6), 128);
        x.change(7, 1, 0);
        Edge.is("the first one, too", x.now(6), 129);
        x.change(0, 1, -1);
        Edge.is("the last one is loved by one, still", x.now(6), 129);
        x.change(1, 1, -1);
        Edge.is("the last one is loved by nobody", x.now(6), 1);
    }

    private static void ahead() {
        Edge.says(14, "What 2, 3, 5 (as in of()) of a SPEAKER behind n (0 to 100) DAYS. BEYOND.");
        WordSupper x = Check.told("cook plate 0 0 0 0 9;speaker fat 99 plate 13");
        Edge.is("fat now", x.ahead(1, 2, 0), 99);
        Edge.is("ate now", x.ahead(1, 3, 0), 0);
        Edge.is("left now", x.ahead(1, 5, 0), 13);
        Edge.is("fat behind 1", x.ahead(1, 2, 1), 97);
        Edge.is("ate behind 1", x.ahead(1, 3, 1), 12);
        Edge.is("left behind 1", x.ahead(1, 5, 1), 2);
        Edge.is("fat behind 100", x.ahead(1, 2, 100), 0);
        Edge.is("ate behind 100", x.ahead(1, 3, 100), 113);
        Edge.is("left behind 100", x.ahead(1, 5, 100), 0);
        Edge.is("left of lies behind 100", x.ahead(0, 5, 100), 9);
        x.list(4, 1);
        Edge.is("THE LIST is said on day 96 behind 97 days", x.ahead(0, 5, 97) - x.ahead(0, 5, 96), 1);
        Some.outside("ahead, days ", 0, 100, (y, n) -> y.ahead(0, 5, n));
        Some.refused(Rooms::three, "ahead of what ", (y, what) -> y.ahead(0, what, 1), -1, 0, 1, 4, 6, 7, Some.LOWEST, Some.HIGHEST);
        Some.noSpeaker("ahead", (y, speaker) -> y.ahead(speaker, 2, 1));
    }

    private static void aheadChangesNothing() {
        Edge.says(Doc.TERMS, "---- what will be (nothing changes).");
        for (int what : new int[] {2, 3, 5}) {
            Edge.onlyTells(Rooms::eight, "ahead(2, " + what + ", 100)", Rooms.eight().ahead(2, what, 100), y -> y.ahead(2, what, 100));
        }
        Edge.onlyTells(Rooms::three, "served(0, 4, 100)", Rooms.three().served(0, 4, 100), y -> y.served(0, 4, 100));
        Edge.onlyTells(Rooms::three, "clean(2)", Rooms.three().clean(2), y -> y.clean(2));
        Edge.onlyTells(Rooms::three, "when(0, 31)", Rooms.three().when(0, 31), y -> y.when(0, 31));
        Edge.onlyTells(Rooms::three, "thin(2)", Rooms.three().thin(2), y -> y.thin(2));
    }

    private static void served() {
        Edge.says(15, "WORDS of a TASTE on a PLATE behind n (0 to 100) DAYS. BEYOND.");
        WordSupper x = Check.told("cook plate 999 0 0 0 980 999;list 4 1;cook plate 4 3");
        Edge.is("creams now", x.served(0, 0, 0), 999);
        Edge.is("creams behind 1", x.served(0, 0, 1), 986);
        Edge.is("creams behind 77", x.served(0, 0, 77), 0);
        Edge.is("creams behind 76", x.served(0, 0, 76), 11);
        Edge.is("creams behind 100", x.served(0, 0, 100), 0);
        Edge.is("lies behind 100", x.served(0, 4, 100), 980 + 13);
        x.list(4, 20);
        Edge.is("lies behind 100, 999 at most", x.served(0, 4, 100), 999);
        Edge.is("pears now", x.served(0, 5, 0), 999);
        Edge.is("pears behind 1", x.served(0, 5, 1), 0);
        Some.outside("served, days ", 0, 100, (y, n) -> y.served(0, 5, n));
        Some.noTaste("served", (y, taste) -> y.served(0, taste, 1));
        Some.noSpeaker("served", (y, speaker) -> y.served(speaker, 0, 1));
    }

    private static void clean() {
        Edge.says(16, "Behind how many DAYS (0 to 100, the fewest) the PLATE of a SPEAKER is CLEAN. BEYOND. NONE.");
        WordSupper x = Check.told("cook;cook plate 13;cook plate 14;cook plate 0 400;cook plate 0 0 0 0 1;vinegar 0");
        Edge.is("clean now", x.clean(0), 0);
        Edge.is("thirteen creams with a bite less", x.clean(1), 2);
        Edge.is("400 retorts, four a day", x.clean(3), 100);
        x.vinegar(1);
        Edge.is("thirteen creams", x.clean(1), 1);
        Edge.is("fourteen creams", x.clean(2), 2);
        Edge.refused(EdgesOfDays::tooMuch, "clean, 401 retorts, four a day", Check.NONE, y -> y.clean(0));
        Edge.refused(EdgesOfDays::tooMuch, "clean, a lie", Check.NONE, y -> y.clean(1));
        WordSupper once = Check.told("cook plate 13");
        once.go(1);
        once.list(4, 1);
        Edge.is("clean now, and never behind day 8", once.clean(0), 0);
        once.serve(0, 0, 13);
        Edge.is("clean behind one day, and never behind day 8", once.clean(0), 1);
        once.go(8);
        Edge.is("behind day 8", once.clean(0), Check.NONE);
        Some.noSpeaker("clean", (y, speaker) -> y.clean(speaker));
    }

    private static WordSupper tooMuch() {
        return Check.told("cook plate 0 401;cook plate 0 0 0 0 1;cook plate 13;vinegar 0");
    }

    private static void when() {
        Edge.says(17, "Behind how many DAYS (0 to 100, the fewest) LEFT of a SPEAKER is v (0 to 5000) or more. BEYOND. NONE.");
        // The number 3 says THE LIST on days 3, 11, .. 99: 13 times behind 100 days.
        WordSupper x = thirteenLies();
        Edge.is("when(3, 0)", x.when(3, 0), 0);
        Edge.is("when(3, 1)", x.when(3, 1), 4);
        Edge.is("when(3, 12)", x.when(3, 12), 92);
        Edge.is("when(3, 13)", x.when(3, 13), 100);
        Edge.refused(EdgesOfDays::thirteenLies, "when(3, 14)", Check.NONE, y -> y.when(3, 14));
        x.go(1);
        Edge.is("when(3, 13) on day 1", x.when(3, 13), 99);
        // On day 7 the 14th comes behind 101 days, on day 8 behind 100.
        x.go(6);
        Edge.is("when(3, 14) on day 7", x.when(3, 14), Check.NONE);
        x.go(1);
        Edge.is("when(3, 14) on day 8", x.when(3, 14), 100);
        Some.outside("when, words ", 0, 5000, (y, v) -> y.when(0, v));
        Some.noSpeaker("when", (y, speaker) -> y.when(speaker, 0));
    }

    private static WordSupper thirteenLies() {
        return Check.told("cook;cook;cook;cook;list 4 1");
    }

    private static void whenByWords() {
        Edge.says(17, "LEFT of a SPEAKER is v (0 to 5000) or more");
        WordSupper x = Check.told("cook plate 999 999 999 999 999 5");
        Edge.is("when(0, 5000) with 5000 left", x.when(0, 5000), 0);
        x.serve(0, 5, 4);
        Edge.is("when(0, 4999) with 4999 left", x.when(0, 4999), 0);
        Edge.is("when(0, 5000) with 4999 left", x.when(0, 5000), Check.NONE);
        x.serve(0, 5, 999);
        Edge.is("when(0, 5000) with 5994 left", x.when(0, 5000), 0);
        WordSupper once = Check.told("cook plate 13");
        Edge.is("as many as now, which are gone then", once.when(0, 13), 0);
        Edge.is("one more", once.when(0, 14), Check.NONE);
    }

    private static void thin() {
        Edge.says(18, "Behind how many DAYS (0 to 100, the fewest) FAT of a SPEAKER is 0. BEYOND. NONE.");
        int[][] rows = {{0, 0}, {1, 1}, {2, 1}, {3, 2}, {98, 49}, {99, 50}};
        for (int[] row : rows) {
            Edge.is("thin with fat " + row[0], Check.told("cook fat " + row[0]).thin(0), row[1]);
        }
        Some.noSpeaker("thin", (y, speaker) -> y.thin(speaker));
    }

    /** Thirteen creams a day make fat one more, 97 in the end; without any it is two less a day. */
    private static void thinBehindMuch() {
        Edge.says(18, "(0 to 100, the fewest) FAT of a SPEAKER is 0. BEYOND. NONE.");
        Edge.is("51 days with cream, 49 without", Check.told("cook plate 663").thin(0), 100);
        Edge.refused(() -> Check.told("cook plate 676"), "thin, 52 days with cream, 49 without", Check.NONE, y -> y.thin(0));
        WordSupper x = Check.told("cook fat 0 plate 0 0 0 0 0 12");
        Edge.is("thin now, and not on the next day", x.thin(0), 0);
        x.go(1);
        Edge.is("thin behind it", x.thin(0), 1);
    }
}
