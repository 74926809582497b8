/** The edges of what is said on a day and of supper, as the terms name these. */
final class EdgesOfADay {
    private static final int T = Doc.TERMS;

    private EdgesOfADay() {
    }

    static void run() {
        whoSaysTheList();
        mostWords();
        allSpeakAheadOfSupper();
        byNumbers();
        tastesInOrder();
        asManyAsBitesAreEnoughFor();
        noneAndAll();
        whomItLoves();
        saintsTurn();
        fat();
        ate();
        leftAndClean();
    }

    private static void whoSaysTheList() {
        Edge.says(T, "(1) the SPEAKER of the number DAY modulo 8, if there is one, says THE LIST");
        WordSupper eight = Check.told("cook;cook;cook;cook;cook;cook;cook;cook;list 4 1");
        for (int day = 0; day <= 16; day++) {
            for (int speaker = 0; speaker < 8; speaker++) {
                int often = (day + 7 - speaker) / 8;
                Edge.is("lies of " + speaker + " of eight, behind day " + (day - 1), eight.plate(speaker, 4), often);
            }
            eight.go(1);
        }
        WordSupper one = Check.told("cook;list 4 20");
        int[] due = {0, 20, 20, 20, 20, 20, 20, 20, 20, 40, 40, 40, 40, 40, 40, 40, 40, 60};
        for (int day = 0; day < due.length; day++) {
            Edge.is("lies of one alone, ahead of day " + day, one.plate(0, 4), due[day]);
            one.go(1);
        }
        WordSupper nobody = Check.told("list 4 20");
        Edge.is("left with nobody", nobody.go(60), 0);
        nobody.speaker(5);
        Edge.is("who comes later has not said it", nobody.plate(0, 4), 0);
    }

    private static void mostWords() {
        Edge.says(T, "all on their own PLATES (999 of a TASTE at most)");
        int[][] rows = {{978, 998}, {979, 999}, {980, 999}, {998, 999}, {999, 999}};
        for (int[] row : rows) {
            WordSupper x = Check.told("cook plate 0 0 0 0 " + row[0] + ";list 4 20");
            x.go(1);
            Edge.is(row[0] + " lies and 20 of the list", x.plate(0, 4), row[1]);
        }
        int[][] talk = {{997, 998}, {998, 999}, {999, 999}};
        for (int[] row : talk) {
            WordSupper x = Check.told("child plate 0 0 " + row[0]);
            x.go(1);
            Edge.is(row[0] + " hard and one that a child talks", x.plate(0, 2), row[1]);
        }
        WordSupper both = Check.told("speaker plate 979;list 0 20");
        both.go(1);
        Edge.is("979 creams, 20 of the list, one that it talks, twelve gone", both.plate(0, 0), 987);
        WordSupper every = Check.told("liar fat 99 plate 999 999 999 999 999 999;list 0 20;list 1 20;list 2 20;list 3 20");
        Edge.is("all tastes are full, pears go", every.go(1), 5 * 999);
    }

    private static void allSpeakAheadOfSupper() {
        Edge.says(T, "says THE LIST; SPEAKERS by numbers say what they TALK: all on their own PLATES");
        WordSupper x = Check.told("cook;speaker;list 5 20");
        x.change(0, 1, 1);
        x.go(1);
        Edge.is("the first one ate what the second one said on that day", x.of(0, 3), 21);
        Edge.is("the second one ate nothing", x.of(1, 3), 0);
        Edge.is("the second one has nothing", x.of(1, 5), 0);
    }

    private static void byNumbers() {
        Edge.says(T, "(2) SPEAKERS by numbers: by its APPETITE one swallows WORDS of its own PLATE");
        WordSupper x = Check.told("cook plate 20;cook loves 0;cook loves 0");
        x.go(1);
        Edge.is("the first one", x.of(0, 3), 13);
        Edge.is("the second one", x.of(1, 3), 7);
        Edge.is("the third one", x.of(2, 3), 0);
        WordSupper y = Check.told("cook;cook;cook plate 20");
        y.change(0, 1, 2);
        y.change(1, 1, 2);
        y.go(1);
        Edge.is("the first one, of the last one's plate", y.of(0, 3), 13);
        Edge.is("the second one, of the last one's plate", y.of(1, 3), 7);
        Edge.is("the last one, of its own", y.of(2, 3), 0);
    }

    private static void tastesInOrder() {
        Edge.says(T, "TASTES from 0 on");
        // 13 bites: two hard ones take 10, and 3 are too few for a promise.
        ate("cook plate 0 0 2 1", 0, 0, 0, 1, 0, 0);
        ate("cook plate 13 1 1 1", 0, 1, 1, 1, 0, 0);
        ate("cook plate 9 1 1 1", 0, 0, 1, 1, 0, 0);
        ate("liar fat 0 plate 0 7 1 1 1 1", 0, 1, 1, 1, 2, 0);
    }

    /** One speaker's plate behind a day. */
    private static void ate(String text, int... plate) {
        WordSupper x = Check.told(text);
        x.go(1);
        for (int taste = 0; taste < 6; taste++) {
            Edge.is(text + ", behind a day, taste " + taste, x.plate(0, taste), plate[taste]);
        }
    }

    private static void asManyAsBitesAreEnoughFor() {
        Edge.says(T, "as many of each as there are and as its bites left are enough for");
        ate("cook plate 13", 0, 0, 0, 0, 0, 0);
        ate("cook plate 14", 1, 0, 0, 0, 0, 0);
        ate("cook plate 1 4", 0, 0, 0, 0, 0, 0);
        ate("cook plate 2 4", 0, 1, 0, 0, 0, 0);
        ate("cook plate 1 0 0 3", 0, 0, 0, 0, 0, 0);
        ate("cook plate 2 0 0 3", 0, 0, 0, 1, 0, 0);
        // Nothing is bitten off: what isn't enough for a hard word is left for a promise.
        ate("cook plate 0 3 1 1", 0, 0, 1, 0, 0, 0);
        ate("cook plate 0 3 1 2", 0, 0, 1, 1, 0, 0);
        ate("cook plate 8 0 1", 0, 0, 0, 0, 0, 0);
        ate("cook plate 9 0 1", 0, 0, 1, 0, 0, 0);
        ate("liar fat 0 plate 0 0 0 0 0 0", 0, 0, 0, 0, 1, 0);
        ate("liar fat 0 plate 0 0 0 0 999 999", 0, 0, 0, 0, 999, 0);
        WordSupper last = Check.told("cook;liar");
        last.go(1);
        last.change(0, 1, 1);
        last.change(1, 2, 0);
        last.serve(1, 4, 3);
        last.go(1);
        Edge.is("nine bites are enough for one lie", last.plate(1, 4), 2);
        last.change(1, 2, 10);
        last.serve(1, 4, 0);
        last.go(1);
        Edge.is("eight bites are too few for a lie", last.plate(1, 4), 1);
        WordSupper lie = Check.told("liar fat 0 plate 0 0 0 0 1");
        lie.go(1);
        Edge.is("a day's own words come first, six bites are too few for a lie", lie.plate(0, 4), 2);
    }

    private static void noneAndAll() {
        Edge.says(T, "(of what can't be chewed none, of what takes no bites all)");
        ate("cook plate 0 0 0 0 999 999", 0, 0, 0, 0, 999, 0);
        ate("cook plate 13 0 0 0 1 999", 0, 0, 0, 0, 1, 0);
        ate("cook plate 14 0 0 0 1 999", 1, 0, 0, 0, 1, 0);
        ate("child plate 0 0 998", 0, 0, 999, 0, 0, 0);
        ate("saint plate 0 0 3", 0, 0, 0, 0, 0, 0);
        ate("saint plate 0 0 4", 0, 0, 1, 0, 0, 0);
        // A reader's pears take a bite each: ten bites, none for the promises.
        ate("reader plate 5 0 0 0 0 1", 0, 0, 0, 3, 0, 1);
        ate("reader plate 4 0 0 0 0 3", 0, 0, 0, 3, 0, 1);
    }

    private static void whomItLoves() {
        Edge.says(T, "then, if it LOVES another one, of that one's PLATE likewise with the bites that are left");
        loved(13, 10, 0, 0, 10);
        loved(12, 10, 0, 1, 9);
        loved(4, 9, 0, 9, 0);
        loved(0, 13, 0, 13, 0);
        loved(0, 14, 0, 13, 1);
        loved(14, 10, 1, 0, 10);
        WordSupper x = Check.told("cook plate 14;child plate 0 0 0 0 7 8");
        x.change(0, 1, 1);
        x.go(1);
        Edge.is("with no bites left it takes pears", x.plate(1, 5), 0);
        Edge.is("and no lies", x.plate(1, 4), 7);
        Edge.is("and pears are counted", x.of(0, 3), 13 + 8);
        WordSupper z = Check.told("child;cook plate 0 0 3");
        z.change(0, 1, 1);
        z.go(1);
        Edge.is("a child takes nothing hard from a cook's plate", z.of(0, 3), 1);
        WordSupper nobody = Check.told("cook;cook plate 20");
        nobody.go(1);
        Edge.is("who loves nobody eats of no other plate", nobody.of(0, 3), 0);
    }

    /** Creams on a cook's plate and on that of a saint, whom it loves: six of what is left there the saint takes. */
    private static void loved(int own, int other, int ownThen, int eaten, int otherThen) {
        WordSupper x = Check.told("cook plate " + own + ";saint plate " + other + " 0 0 0 1");
        x.change(0, 1, 1);
        x.go(1);
        String call = own + " creams, and " + other + " on the other plate: ";
        Edge.is(call + "its own then", x.plate(0, 0), ownThen);
        Edge.is(call + "eaten", x.of(0, 3), own - ownThen + eaten);
        Edge.is(call + "the other's then", x.plate(1, 0), Math.max(0, otherThen - 6));
    }

    private static void saintsTurn() {
        Edge.says(T, "SAINT: as a CHILD, and 20, if its PLATE is empty.");
        WordSupper x = Check.told("saint;cook plate 50");
        x.change(0, 1, 1);
        x.go(1);
        Edge.is("before an empty plate it takes 26 off another's", x.of(0, 3), 26);
        WordSupper y = Check.told("saint plate 0 0 0 0 1;cook plate 50");
        y.change(0, 1, 1);
        y.go(1);
        Edge.is("before a lie it takes 6", y.of(0, 3), 6);
        WordSupper z = Check.told("saint;cook plate 50;list 4 1");
        z.change(0, 1, 1);
        z.go(1);
        Edge.is("before a lie of that day it takes 6", z.of(0, 3), 6);
    }

    private static void fat() {
        Edge.says(T, "FAT is 1 more for each 4 WORDS (cut) that it swallowed (99 at most), then 2 less (0 at least)");
        int[][] rows = {
            // fat, pears, fat then
            {50, 0, 48}, {50, 3, 48}, {50, 4, 49}, {50, 7, 49}, {50, 8, 50}, {50, 11, 50}, {50, 12, 51},
            {96, 12, 97}, {97, 8, 97}, {97, 12, 97}, {99, 0, 97}, {99, 999, 97}, {0, 999, 97}, {0, 404, 97}, {0, 400, 97}, {0, 396, 97}, {0, 395, 96},
            {0, 0, 0}, {1, 0, 0}, {2, 0, 0}, {3, 0, 1}, {0, 4, 0}, {1, 4, 0}, {0, 8, 0}, {0, 11, 0}, {0, 12, 1},
        };
        for (int[] row : rows) {
            WordSupper x = Check.told("cook fat " + row[0] + " plate 0 0 0 0 0 " + row[1]);
            x.go(1);
            Edge.is("fat " + row[0] + " and " + row[1] + " words", x.of(0, 2), row[2]);
        }
        WordSupper x = Check.told("cook plate 0 0 0 0 0 2;cook plate 0 0 0 0 0 2");
        x.change(0, 1, 1);
        x.go(1);
        Edge.is("two words of each of two plates are four", x.of(0, 2), 49);
        Edge.is("the other one swallowed none", x.of(1, 2), 48);
    }

    private static void ate() {
        Edge.says(T, "ATE so many more (99999 at most)");
        int[][] rows = {{99998, 0, 99998}, {99998, 1, 99999}, {99998, 2, 99999}, {99999, 0, 99999}, {99999, 1, 99999}, {99000, 998, 99998}, {99000, 999, 99999}, {99999, 999, 99999}};
        for (int[] row : rows) {
            WordSupper x = Check.told("cook plate 0 0 0 0 0 " + row[1]);
            x.change(0, 3, row[0]);
            x.go(1);
            Edge.is(row[0] + " and " + row[1] + " words", x.of(0, 3), row[2]);
        }
    }

    private static void leftAndClean() {
        Edge.says(T, "LEFT: WORDS on a PLATE. CLEAN: a PLATE with none.");
        WordSupper x = Check.told("cook");
        Edge.is("left of an empty plate", x.of(0, 5), 0);
        Edge.is("an empty plate is clean", x.now(2), 1);
        for (int taste = 0; taste < 6; taste++) {
            x.serve(0, taste, 1);
            Edge.is("left with one word of " + taste, x.of(0, 5), 1);
            Edge.is("clean with one word of " + taste, x.now(2), 0);
            x.serve(0, taste, 0);
        }
        for (int taste = 0; taste < 6; taste++) {
            x.serve(0, taste, 999);
        }
        Edge.is("left of a full plate", x.of(0, 5), 5994);
    }
}
