/** The edges of promises 19 to 24: what to do. */
final class EdgesOfCounsel {
    private EdgesOfCounsel() {
    }

    static void run() {
        love();
        loveOfNobody();
        loveAmongEight();
        kindFor();
        kindForTies();
        vinegarFor();
        unsay();
        unsayIsNoLess();
        silence();
        silenceOfAll();
        silenceOfTheFewest();
        swapFor();
        swapForDays();
        swapForTastes();
        swapForFew();
        fewestDays();
        counselChangesNothing();
    }

    private static void love() {
        Edge.says(19, "is least behind n (0 to 40) DAYS. BEYOND.");
        WordSupper x = Check.told("cook;cook plate 5;cook plate 999");
        Edge.is("love(0, 0), any would do", x.love(0, 0), 1);
        Edge.is("love(0, 1)", x.love(0, 1), 2);
        Edge.is("love(0, 40), two eat 999 in 39 days", x.love(0, 40), 2);
        Edge.is("love(2, 1), any would do", x.love(2, 1), 0);
        Some.outside("love, days ", 0, 40, (y, n) -> y.love(0, n));
        Some.noSpeaker("love", (y, speaker) -> y.love(speaker, 1));
    }

    private static void loveOfNobody() {
        Edge.says(19, "(another one, or -1: nobody, which comes last)");
        WordSupper alone = Check.told("cook plate 5");
        Edge.is("love(0, 0), alone", alone.love(0, 0), -1);
        Edge.is("love(0, 40), alone", alone.love(0, 40), -1);
        WordSupper two = Check.told("cook;cook");
        Edge.is("love(0, 5), nobody would do as well", two.love(0, 5), 1);
        Edge.is("love(1, 5), nobody would do as well", two.love(1, 5), 0);
        // Who eats along from the cook's plate has fat 30 on day 8, else 28: a bite more for the retorts of THE LIST.
        WordSupper fat = Check.told("lawyer;cook");
        fat.go(1);
        fat.change(0, 2, 42);
        fat.serve(1, 0, 10);
        fat.list(1, 20);
        Edge.is("love(0, 7), both would do", fat.love(0, 7), 1);
        Edge.is("love(0, 8), nobody is best", fat.love(0, 8), -1);
        fat.change(0, 1, 1);
        Edge.is("love(0, 8), also when it loves another one now", fat.love(0, 8), -1);
    }

    private static void loveAmongEight() {
        Edge.says(19, "Whom a SPEAKER must love (another one");
        WordSupper x = Check.told("cook;cook;cook;cook;cook;cook;cook;cook plate 99");
        Edge.is("love(0, 1), the last one", x.love(0, 1), 7);
        Edge.is("love(7, 1), the first one", x.love(7, 1), 0);
        x.serve(7, 0, 0);
        x.serve(3, 0, 99);
        Edge.is("love(3, 1), not itself", x.love(3, 1), 0);
        Edge.is("love(4, 1)", x.love(4, 1), 3);
    }

    private static void kindFor() {
        Edge.says(20, "The KIND of which it must be, so that its LEFT is least behind n (0 to 40) DAYS. BEYOND.");
        WordSupper x = Check.told("child plate 0 0 0 0 1;cook;cook plate 13;cook plate 0 0 10");
        Edge.is("kindFor(0, 0), all would do", x.kindFor(0, 0), 0);
        Edge.is("kindFor(3, 1), two bites for what is hard", x.kindFor(3, 1), 3);
        Edge.is("kindFor(2, 1), a cook alone has 13 bites and talks nothing", x.kindFor(2, 1), 5);
        Edge.is("kindFor(2, 40), all but some would do", x.kindFor(2, 40), 0);
        Some.outside("kindFor, days ", 0, 40, (y, n) -> y.kindFor(0, n));
        Some.noSpeaker("kindFor", (y, speaker) -> y.kindFor(speaker, 1));
    }

    /** Each kind that can be told, up to the last one. */
    private static void kindForTies() {
        Edge.says(20, "The KIND of which it must be");
        WordSupper x = Check.told("cook;cook fat 0 plate 0 3;vinegar 9");
        Edge.is("kindFor(1, 1), a lawyer as well as a cook", x.kindFor(1, 1), 1);
        x.serve(1, 1, 0);
        x.serve(1, 4, 1);
        Edge.is("kindFor(1, 1), a lie is left by all", x.kindFor(1, 1), 0);
        // The cook takes the liar's cream and retorts ahead of its turn; on an even day it tells a lie more.
        x.change(0, 1, 1);
        Edge.is("kindFor(1, 1) on an even day, a lie is left by all", x.kindFor(1, 1), 0);
        x.go(1);
        Edge.is("kindFor(1, 1) on an odd day, a liar chews the lie", x.kindFor(1, 1), 6);
        x.change(1, 2, 10);
        Edge.is("kindFor(1, 1), eight bites are too few for a lie", x.kindFor(1, 1), 0);
    }

    private static void vinegarFor() {
        Edge.says(21, "The greatest VINEGAR with which its PLATE is CLEAN behind n (0 to 40) DAYS. BEYOND. NONE.");
        WordSupper x = Check.told("speaker plate 0 3;speaker plate 0 1;cook;cook plate 21;cook plate 0 0 0 0 1;speaker plate 0 2;cook plate 22;vinegar 5");
        Edge.is("vinegarFor(0, 1), with three retorts 0 alone", x.vinegarFor(0, 1), 0);
        Edge.is("vinegarFor(5, 1), with two retorts", x.vinegarFor(5, 1), 2);
        Edge.is("vinegarFor(1, 1), eleven bites for one retort", x.vinegarFor(1, 1), 8);
        Edge.is("vinegarFor(2, 0), clean now", x.vinegarFor(2, 0), 9);
        Edge.is("vinegarFor(3, 1), a cook eats 21", x.vinegarFor(3, 1), 9);
        Edge.is("vinegarFor(6, 2)", x.vinegarFor(6, 2), 9);
        Edge.is("vinegarFor(3, 40)", x.vinegarFor(3, 40), 9);
        Edge.refused(EdgesOfCounsel::sour, "vinegarFor(0, 1), four retorts", Check.NONE, y -> y.vinegarFor(0, 1));
        Edge.refused(EdgesOfCounsel::sour, "vinegarFor(1, 40), a lie", Check.NONE, y -> y.vinegarFor(1, 40));
        Edge.refused(EdgesOfCounsel::sour, "vinegarFor(2, 0), not clean now", Check.NONE, y -> y.vinegarFor(2, 0));
        Edge.refused(EdgesOfCounsel::sour, "vinegarFor(3, 1), a cook with 22", Check.NONE, y -> y.vinegarFor(3, 1));
        Edge.refused(EdgesOfCounsel::sour, "vinegarFor(1, 41), BEYOND ahead of NONE", Check.BEYOND, y -> y.vinegarFor(1, 41));
        Some.outside("vinegarFor, days ", 0, 40, (y, n) -> y.vinegarFor(0, n));
        Some.noSpeaker("vinegarFor", (y, speaker) -> y.vinegarFor(speaker, 1));
    }

    private static WordSupper sour() {
        return Check.told("speaker plate 0 4;cook plate 0 0 0 0 1;cook plate 1;cook plate 22");
    }

    private static void unsay() {
        Edge.says(22, "The TASTE that THE LIST must tell no WORD of, so that LEFT of all together is least behind n (0 to 40) DAYS. BEYOND.");
        WordSupper x = Check.told("cook;list 4 1");
        Edge.is("unsay(0), all would do", x.unsay(0), 0);
        Edge.is("unsay(1)", x.unsay(1), 4);
        Edge.is("unsay(40)", x.unsay(40), 4);
        Edge.is("unsay(40) with nobody, all would do", new WordSupper().unsay(40), 0);
        WordSupper first = Check.told("reader;list 0 20;list 5 3");
        Edge.is("unsay(1), the first taste", first.unsay(1), 0);
        WordSupper last = Check.told("reader plate 5;list 5 3");
        Edge.is("unsay(1), the last taste", last.unsay(1), 5);
        // The number 7 says THE LIST on day 7 and on day 39 for the fifth time.
        WordSupper late = Check.told("cook;cook;cook;cook;cook;cook;cook;cook;list 4 1");
        late.go(1);
        for (int speaker = 0; speaker < 7; speaker++) {
            late.serve(speaker, 4, 999);
        }
        Edge.is("unsay(6), the plates of the others are full", late.unsay(6), 0);
        Edge.is("unsay(7)", late.unsay(7), 4);
        Some.outside("unsay ", 0, 40, (y, n) -> y.unsay(n));
        Some.refused(Rooms::nobody, "unsay with nobody ", (y, n) -> y.unsay(n), -1, 41);
    }

    private static void unsayIsNoLess() {
        Edge.says(22, "The TASTE that THE LIST must tell no WORD of");
        WordSupper x = Check.told("speaker plate 100;list 2 1");
        Edge.is("unsay(1), what it talks is said all the same", x.unsay(1), 2);
        x.list(2, 0);
        Edge.is("unsay(1), no word is told", x.unsay(1), 0);
    }

    private static void silence() {
        Edge.says(23, "the PLATE of a told one is CLEAN behind n (0 to 12) DAYS; of several the least. BEYOND. NONE.");
        WordSupper x = Check.told("speaker plate 12;cook;list 4 1");
        Edge.is("silence(1, 0), clean now", x.silence(1, 0), 0);
        Edge.is("silence(0, 1), it alone", x.silence(0, 1), 1);
        Edge.is("silence(1, 1)", x.silence(1, 1), 0);
        Edge.is("silence(1, 2), THE LIST of day 1", x.silence(1, 2), 2);
        Edge.is("silence(0, 12)", x.silence(0, 12), 1);
        Edge.refused(EdgesOfCounsel::sour, "silence(1, 12), a lie", Check.NONE, y -> y.silence(1, 12));
        Edge.refused(EdgesOfCounsel::sour, "silence(2, 0), not clean now", Check.NONE, y -> y.silence(2, 0));
        Edge.refused(EdgesOfCounsel::sour, "silence(1, 13), BEYOND ahead of NONE", Check.BEYOND, y -> y.silence(1, 13));
        Some.outside("silence, days ", 0, 12, (y, n) -> y.silence(0, n));
        Some.noSpeaker("silence", (y, speaker) -> y.silence(speaker, 1));
    }

    /** Each of eight who is silent has a bite more for the plate of the first one. */
    private static void silenceOfAll() {
        Edge.says(23, "The set of fewest SPEAKERS such that, if these say nothing from now on (neither THE LIST nor what they TALK)");
        WordSupper x = Check.told("speaker;speaker;speaker;speaker;speaker;speaker;speaker;speaker");
        for (int speaker = 1; speaker < 8; speaker++) {
            x.change(speaker, 1, 0);
        }
        int[][] rows = {{88, 0}, {89, 1}, {90, 3}, {91, 7}, {95, 127}, {96, 255}, {97, Check.NONE}};
        for (int[] row : rows) {
            x.serve(0, 0, row[0]);
            Edge.is("silence(0, 1) before " + row[0] + " creams", x.silence(0, 1), row[1]);
        }
        x.list(0, 3);
        int[][] withList = {{85, 0}, {86, 1}, {89, 1}, {90, 3}, {96, 255}, {97, Check.NONE}};
        for (int[] row : withList) {
            x.serve(0, 0, row[0]);
            Edge.is("silence(0, 1) before " + row[0] + " creams and THE LIST's three", x.silence(0, 1), row[1]);
        }
    }

    private static void silenceOfTheFewest() {
        Edge.says(23, "of several the least");
        WordSupper x = Check.told("cook plate 24;speaker;speaker loves 0;speaker loves 0");
        Edge.is("silence(0, 1), a cook and two with 11 bites each", x.silence(0, 1), 0);
        x.serve(0, 0, 36);
        Edge.is("silence(0, 1), of the numbers 2 and 3 the least", x.silence(0, 1), 4);
        x.serve(0, 0, 37);
        Edge.is("silence(0, 1), both of these", x.silence(0, 1), 12);
        Edge.says(23, "The set of fewest SPEAKERS");
        // Silence is a bite for the numbers 1 and 2 each, and three for the number 3.
        WordSupper y = Check.told("cook;speaker loves 0;speaker loves 0;lawyer loves 0 fat 99");
        int[][] rows = {{35, 0}, {36, 2}, {37, 8}, {38, 8}, {39, 10}, {40, 14}, {41, Check.NONE}};
        for (int[] row : rows) {
            y.serve(0, 0, row[0]);
            Edge.is("silence(0, 1) before " + row[0] + " creams", y.silence(0, 1), row[1]);
        }
    }

    private static void swapFor() {
        Edge.says(24, "8 times the lesser number and the other one (the least pair). BEYOND.");
        WordSupper x = Check.told("cook;cook");
        Edge.is("swapFor(0), two", x.swapFor(0), 1);
        Edge.is("swapFor(20), two", x.swapFor(20), 1);
        WordSupper eight = Check.told("child;child;child;child;child;child;child plate 0 0 9;cook");
        Edge.is("swapFor(1), the last pair", eight.swapFor(1), 8 * 6 + 7);
        eight.change(7, 0, 2);
        eight.change(0, 0, 5);
        Edge.is("swapFor(1), the first one and the 7th", eight.swapFor(1), 6);
        eight.serve(6, 2, 0);
        eight.serve(7, 2, 9);
        Edge.is("swapFor(1), the first and the last one", eight.swapFor(1), 7);
        eight.change(1, 0, 5);
        eight.change(0, 0, 2);
        Edge.is("swapFor(1), the second and the last one", eight.swapFor(1), 15);
        eight.serve(7, 2, 0);
        Edge.is("swapFor(0), all pairs would do", eight.swapFor(0), 1);
        Some.outside("swapFor ", 0, 20, (y, n) -> y.swapFor(n));
    }

    private static void swapForDays() {
        Edge.says(24, "The two whose change of PLATES now leaves fewest WORDS of all together behind n (0 to 20) DAYS");
        WordSupper x = Check.told("cook;child;child plate 0 0 9");
        Edge.is("swapFor(0), no day goes by", x.swapFor(0), 1);
        Edge.is("swapFor(1), the hard words to the cook", x.swapFor(1), 2);
        // A child eats six creams a day and says one: a hundred are gone behind 20 days, a cook eats them in nine.
        WordSupper y = Check.told("cook;cook;child plate 100;vinegar 0");
        Edge.is("swapFor(19), five creams are left to a child", y.swapFor(19), 2);
        Edge.is("swapFor(20), none is left", y.swapFor(20), 1);
        y.serve(2, 0, 101);
        Edge.is("swapFor(20), one cream is left to a child", y.swapFor(20), 2);
    }

    /** What the first one can't eat as well as the last one can, taste by taste. */
    private static void swapForTastes() {
        Edge.says(24, "The two whose change of PLATES now");
        String[] texts = {
            "child;child;cook", "child;child;cook", "child;child;cook", "child;child;cook", "child;cook;liar fat 0", "reader;reader;cook",
        };
        for (int taste = 0; taste < 6; taste++) {
            // Who loves the liar eats what it says, so that its nine bites are for a lie; on day 1 it tells none.
            WordSupper x = new WordSupper();
            x.go(1);
            Check.read(x, texts[taste]);
            x.change(1, 1, 2);
            x.serve(0, taste, 40);
            Edge.is("swapFor(1) with 40 words of " + taste, x.swapFor(1), 2);
            Edge.is("the plate stays", x.plate(0, taste), 40);
        }
    }

    private static void swapForFew() {
        Edge.says(24, "NONE: fewer than two.");
        Edge.refused(Rooms::nobody, "swapFor(0) with nobody", Check.NONE, y -> y.swapFor(0));
        Edge.refused(() -> Check.told("cook plate 3"), "swapFor(20) with one", Check.NONE, y -> y.swapFor(20));
        Edge.refused(Rooms::nobody, "swapFor(-1) with nobody, BEYOND ahead of NONE", Check.BEYOND, y -> y.swapFor(-1));
        Edge.refused(() -> Check.told("cook"), "swapFor(21) with one, BEYOND ahead of NONE", Check.BEYOND, y -> y.swapFor(21));
        Edge.is("swapFor(0) with two", Check.told("cook;cook").swapFor(0), 1);
    }

    /** What is worse behind fewer days, or behind more, doesn't count. */
    private static void fewestDays() {
        Edge.says(21, "CLEAN behind n (0 to 40) DAYS");
        WordSupper x = Check.told("cook plate 13;list 4 1");
        x.go(1);
        Edge.is("vinegarFor(0, 1), the lie of day 0 stays", x.vinegarFor(0, 1), Check.NONE);
        x.serve(0, 4, 0);
        Edge.is("vinegarFor(0, 7), clean ahead of day 8", x.vinegarFor(0, 7), 9);
        Edge.is("vinegarFor(0, 8), no more behind it", x.vinegarFor(0, 8), Check.NONE);
        Edge.says(23, "CLEAN behind n (0 to 12) DAYS");
        Edge.is("silence(0, 7)", x.silence(0, 7), 0);
        Edge.is("silence(0, 8)", x.silence(0, 8), 1);
    }

    private static void counselChangesNothing() {
        Edge.says(Doc.TERMS, "one that answers a finding changes nothing but status()");
        Edge.onlyTells(Rooms::eight, "love(0, 40)", Rooms.eight().love(0, 40), y -> y.love(0, 40));
        Edge.onlyTells(Rooms::eight, "kindFor(2, 40)", Rooms.eight().kindFor(2, 40), y -> y.kindFor(2, 40));
        Edge.onlyTells(Rooms::eight, "vinegarFor(3, 4)", Rooms.eight().vinegarFor(3, 4), y -> y.vinegarFor(3, 4));
        Edge.onlyTells(Rooms::eight, "unsay(40)", Rooms.eight().unsay(40), y -> y.unsay(40));
        Edge.onlyTells(Rooms::eight, "silence(3, 4)", Rooms.eight().silence(3, 4), y -> y.silence(3, 4));
        Edge.onlyTells(Rooms::eight, "swapFor(20)", Rooms.eight().swapFor(20), y -> y.swapFor(20));
    }
}
