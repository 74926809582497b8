import java.util.Arrays;

/** The edges of promises 25 to 29: told plates, talk by draws. */
final class EdgesOfWhatIsTold {
    private EdgesOfWhatIsTold() {
    }

    static void run() {
        fits();
        fitsAny();
        fitsByBits();
        refusedFits();
        kinds();
        kindsAny();
        refusedKinds();
        talk();
        talkRests();
        odds();
        oddsInLowestTerms();
        seed();
    }

    /** A cook with three promises, and sheet 0 of 32 bits. */
    private static WordSupper cook(int... numbers) {
        WordSupper x = Check.told("cook plate 0 0 0 3");
        Rooms.lay(x, 0, 32, numbers);
        return x;
    }

    private static void fits() {
        Edge.says(25, "TASTES of which one WORD more on the PLATE of a SPEAKER now would make LEFT of it now and behind each DAY further on as a sheet tells");
        // Twelve of thirteen bites go to the promises: cream or pears go down along with these.
        fits(63, 4);
        fits(0, 3);
        fits(0, 5);
        fits(0b100001, 4, 0);
        fits(0b011110, 4, 1);
        fits(0, 4, 2);
        fits(0b001110, 4, 1, 0);
        fits(0b010000, 4, 1, 1);
        fits(0, 4, 1, 2);
        int[] longest = new int[40];
        Arrays.fill(longest, 1);
        longest[0] = 4;
        fits(0b010000, longest);
        longest[39] = 2;
        fits(0, longest);
        longest[39] = 0;
        fits(0, longest);
        Edge.says(25, "(-1: any), as a set");
        fits(63);
    }

    private static void fits(int due, int... numbers) {
        Edge.onlyTells(() -> cook(numbers), "fits by " + Arrays.toString(numbers), due, x -> x.fits(0, 0));
    }

    private static void fitsAny() {
        Edge.says(25, "(-1: any)");
        fits(63, -1);
        fits(63, -1, -1);
        fits(0b100001, -1, 0);
        fits(0b010000, -1, -1, 1);
        fits(63, 4, -1);
        fits(0, -2);
        fits(0, 4, -2);
        int[] longest = new int[40];
        Arrays.fill(longest, -1);
        fits(63, longest);
        longest[39] = 1;
        fits(0b010000, longest);
        longest[39] = 0;
        fits(0b101111, longest);
    }

    private static void fitsByBits() {
        Edge.says(Doc.TERMS, "(told with their sign: of 8 bits 255 is -1)");
        fitsBy(8, 255, 5, 63);
        fitsBy(16, 255, 5, 0);
        fitsBy(16, 255, 254, 63);
        fitsBy(16, 65535, 5, 63);
        fitsBy(32, 65535, 5, 0);
        fitsBy(32, -1, 5, 63);
        fitsBy(8, 127, 126, 63);
        fitsBy(8, 128, 127, 0);
        fitsBy(16, 128, 127, 63);
    }

    private static void fitsBy(int bits, int number, int left, int due) {
        WordSupper x = Check.told("cook plate " + left);
        Rooms.lay(x, 3, bits, number);
        Edge.is("fits by " + number + " of " + bits + " bits, " + left + " left", x.fits(3, 0), due);
        Edge.is("kinds by " + number + " of " + bits + " bits, " + (left + 1) + " left", with(x, left + 1).kinds(3, 0), due == 0 ? 0 : 127);
    }

    private static WordSupper with(WordSupper x, int creams) {
        x.serve(0, 0, creams);
        return x;
    }

    private static void refusedFits() {
        Edge.says(25, "BEYOND: no such sheet. MISSING. BEYOND: no such SPEAKER.");
        Some.noSheet("fits", (x, s) -> x.fits(s, 0));
        Some.noSheet("fits of no speaker", (x, s) -> x.fits(s, 3));
        Some.noSpeaker("fits", (x, speaker) -> x.fits(2, speaker));
        Edge.refused(Rooms::three, "fits(3, 0)", Check.MISSING, x -> x.fits(3, 0));
        Edge.refused(Rooms::three, "fits(3, 3), MISSING ahead of no such SPEAKER", Check.MISSING, x -> x.fits(3, 3));
        Edge.refused(Rooms::nobody, "fits(0, 0)", Check.MISSING, x -> x.fits(0, 0));
        Edge.refused(Rooms::nobody, "fits(4, 0)", Check.BEYOND, x -> x.fits(4, 0));
    }

    private static void kinds() {
        Edge.says(26, "KINDS that it could be of, as a set, so that LEFT of it now and behind each DAY further on is as a sheet tells");
        // Ten hard words, behind a day: speaker 8, lawyer 10, child 11, saint 7, reader 10, cook 8, liar 11.
        kinds(127);
        kinds(127, 10);
        kinds(0, 9);
        kinds(0, 11);
        kinds(0b0100001, 10, 8);
        kinds(0b0010010, 10, 10);
        kinds(0b1000100, 10, 11);
        kinds(0b0001000, 10, 7);
        kinds(0, 10, 9);
        int[] longest = new int[40];
        for (int i = 0; i < 40; i++) {
            longest[i] = Math.max(0, 10 - 2 * i);
        }
        kinds(0b0100001, longest);
        longest[39] = 1;
        kinds(0, longest);
    }

    private static void kinds(int due, int... numbers) {
        Edge.onlyTells(() -> hard(numbers), "kinds by " + Arrays.toString(numbers), due, x -> x.kinds(1, 0));
    }

    private static WordSupper hard(int... numbers) {
        WordSupper x = Check.told("cook plate 0 0 10");
        Rooms.lay(x, 1, 16, numbers);
        return x;
    }

    private static void kindsAny() {
        Edge.says(26, "(-1: any)");
        kinds(127, -1);
        kinds(127, -1, -1);
        kinds(0b0001000, -1, 7);
        kinds(0b1000100, -1, 11, -1);
        kinds(0, -2);
        int[] longest = new int[40];
        Arrays.fill(longest, -1);
        kinds(127, longest);
        longest[0] = 9;
        kinds(0, longest);
    }

    private static void refusedKinds() {
        Edge.says(26, "BEYOND: no such sheet. MISSING. BEYOND: no such SPEAKER.");
        Some.noSheet("kinds", (x, s) -> x.kinds(s, 0));
        Some.noSheet("kinds of no speaker", (x, s) -> x.kinds(s, 3));
        Some.noSpeaker("kinds", (x, speaker) -> x.kinds(2, speaker));
        Edge.refused(Rooms::three, "kinds(3, 0)", Check.MISSING, x -> x.kinds(3, 0));
        Edge.refused(Rooms::three, "kinds(3, 3), MISSING ahead of no such SPEAKER", Check.MISSING, x -> x.kinds(3, 3));
        Edge.refused(Rooms::nobody, "kinds(0, 0)", Check.MISSING, x -> x.kinds(0, 0));
        Edge.refused(Rooms::nobody, "kinds(4, 0)", Check.BEYOND, x -> x.kinds(4, 0));
    }

    private static void talk() {
        Edge.says(27, "n times (1 to 20) two draws");
        WordSupper one = Check.told("cook;cook plate 5");
        WordSupper twenty = Check.told("cook;cook plate 5");
        int left = 0;
        for (int i = 0; i < 20; i++) {
            left = one.talk(1);
        }
        Edge.is("talk(20), as twenty times talk(1)", twenty.talk(20), left);
        Edge.is("all then", Rooms.all(twenty).equals(Rooms.all(one)) ? 1 : 0, 1);
        Edge.is("the day behind talk(1)", dayBehind(1), 1);
        Edge.is("the day behind talk(20)", dayBehind(20), 20);
        Edge.is("talk(1) with nobody", new WordSupper().talk(1), 0);
        Edge.is("talk(20) with nobody", new WordSupper().talk(20), 0);
        Edge.says(27, "WORDS; then a DAY: LEFT of all together then. BEYOND.");
        // The draws from 1 tell 14 hard words; a cook eats two of these a day, and three more of the second day's cream.
        Edge.is("talk(1)", Check.told("cook").talk(1), 12);
        Edge.is("talk(2)", Check.told("cook").talk(2), 10);
        Edge.is("talk(1) with two", Check.told("cook;cook plate 0 0 0 0 5").talk(1), 17);
        Some.outside("talk ", 1, 20, (x, n) -> x.talk(n));
    }

    private static int dayBehind(int times) {
        WordSupper x = new WordSupper();
        x.talk(times);
        return x.now(0);
    }

    private static void talkRests() {
        Edge.says(27, "THE LIST tells for the TASTE of the first one's rest by 6 the second one's rest by 21 WORDS");
        int[] ends = new int[4];
        for (int z = -400; z <= 400; z++) {
            int once = z * 1103515245 + 12345;
            int twice = once * 1103515245 + 12345;
            int taste = (once >>> 8) % 6;
            int words = (twice >>> 8) % 21;
            WordSupper x = new WordSupper();
            for (int other = 0; other < 6; other++) {
                x.list(other, 7);
            }
            x.seed(z);
            x.talk(1);
            for (int other = 0; other < 6; other++) {
                Edge.is("listed(" + other + ") behind talk from " + z, x.listed(other), other == taste ? words : 7);
            }
            ends[0] += taste == 0 ? 1 : 0;
            ends[1] += taste == 5 ? 1 : 0;
            ends[2] += words == 0 ? 1 : 0;
            ends[3] += words == 20 ? 1 : 0;
        }
        for (int end : ends) {
            Edge.is("tastes 0 and 5, and 0 and 20 words were among these", end > 0 ? 1 : 0, 1);
        }
    }

    private static void odds() {
        Edge.says(28, "The odds that n (0 to 23) WORDS");
        WordSupper x = Check.told("speaker;liar;child");
        Edge.is("no words, above", x.odds(0, 0, 0), 1);
        Edge.is("no words, below", x.odds(0, 0, 1), 1);
        Edge.is("23 words, above", x.odds(0, 23, 0), 11920928955078125L);
        Edge.is("23 words, below", x.odds(0, 23, 1), 789730223053602816L);
        Edge.is("a child's 23 words, above", x.odds(2, 23, 0), 8388608);
        Edge.is("a child's 23 words, below", x.odds(2, 23, 1), 94143178827L);
        Edge.says(28, "above (what 0), below the line (1). BEYOND.");
        Some.outside("odds, words ", 0, 23, (y, n) -> y.odds(0, n, 0));
        Some.outside("odds below, words ", 0, 23, (y, n) -> y.odds(0, n, 1));
        Some.outside("odds, what ", 0, 1, (y, what) -> y.odds(0, 3, what));
        Some.noSpeaker("odds", (y, speaker) -> y.odds(speaker, 3, 0));
        Edge.onlyTells(Rooms::eight, "odds(7, 23, 0)", 11920928955078125L, y -> y.odds(7, 23, 0));
    }

    private static void oddsInLowestTerms() {
        Edge.says(28, "each of a TASTE that is the rest by 6 of a draw, can all be chewed by a SPEAKER: a fraction in lowest terms");
        WordSupper x = Check.told("speaker;lawyer;child;saint;reader;cook;liar");
        int[] above = {5, 5, 2, 5, 5, 5, 1};
        int[] below = {6, 6, 3, 6, 6, 6, 1};
        for (int kind = 0; kind < 7; kind++) {
            Edge.is("one word, above, kind " + kind, x.odds(kind, 1, 0), above[kind]);
            Edge.is("one word, below, kind " + kind, x.odds(kind, 1, 1), below[kind]);
            Edge.is("two words, above, kind " + kind, x.odds(kind, 2, 0), above[kind] * above[kind]);
            Edge.is("two words, below, kind " + kind, x.odds(kind, 2, 1), below[kind] * below[kind]);
        }
        Edge.is("all can be chewed, 23 words, above", x.odds(6, 23, 0), 1);
        Edge.is("all can be chewed, 23 words, below", x.odds(6, 23, 1), 1);
    }

    private static void seed() {
        Edge.says(29, "z becomes v: what it was.");
        WordSupper x = new WordSupper();
        Edge.is("seed(2147483647)", x.seed(Some.HIGHEST), 1);
        Edge.is("seed(-2147483648)", x.seed(Some.LOWEST), Some.HIGHEST);
        Edge.is("seed(0)", x.seed(0), Some.LOWEST);
        Edge.is("seed(0) again", x.seed(0), 0);
        Edge.is("status(-1)", x.status(-1), 0);
    }
}
