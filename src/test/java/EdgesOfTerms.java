import java.math.BigInteger;

/** The edges that the terms name, ahead of the promises. */
final class EdgesOfTerms {
    private static final int T = Doc.TERMS;

    private EdgesOfTerms() {
    }

    static void run() {
        lastCall();
        numbersOfFindings();
        findingsInLongs();
        zIsNoFinding();
        orderOfFindings();
        quotients();
        sets();
        tastes();
        leastOfSeveral();
        firstState();
        tenthsAreCut();
        atMostZero();
        biteEdges();
        allBites();
        retortsByVinegar();
        appetitesByPlate();
        appetitesByVinegar();
        talkByDays();
        allTalk();
        firstZ();
        draws();
    }

    private static void lastCall() {
        Edge.says(T, "An object is used for at most 512 calls after it has been made");
        WordSupper x = new WordSupper();
        for (int call = 1; call <= 511; call++) {
            x.vinegar(10);
        }
        Edge.is("the 512th call, behind 511 findings", x.status(-1), 511);
        WordSupper y = new WordSupper();
        for (int call = 1; call <= 511; call++) {
            y.go(60);
        }
        Edge.is("the 512th call, behind 511 times 60 days", y.now(0), 511 * 60);
    }

    private static void numbersOfFindings() {
        Edge.says(T, "LOW is -1000001; LOW BEYOND, LOW - 1 FULL, LOW - 2 KIND, LOW - 3 NONE, LOW - 4 STATE, LOW - 5 MISSING, LOW - 6 SIZE");
        WordSupper x = Rooms.eight();
        Edge.is("BEYOND", x.vinegar(10), -1000001);
        Edge.is("FULL", x.speaker(0), -1000002);
        Edge.is("KIND", x.as(4, 2), -1000003);
        x.tear();
        Edge.is("NONE", x.undo(), -1000004);
        Edge.is("MISSING", x.load(3), -1000006);
        Edge.is("SIZE", x.sheet(0, 8, -1), -1000007);
    }

    private static void findingsInLongs() {
        Edge.says(T, "(in longs, too)");
        Edge.is("BEYOND", new WordSupper().odds(0, 0, 0), -1000001L);
    }

    private static void zIsNoFinding() {
        Edge.says(T, "What seed() and count(6) tell, z, may be any int: that is no finding.");
        WordSupper x = new WordSupper();
        int was = 1;
        for (int v : new int[] {-1000001, -1000002, -1000003, -1000004, -1000005, -1000006, -1000007, Integer.MIN_VALUE, Integer.MAX_VALUE, -1, 0}) {
            Edge.is("seed(" + v + ")", x.seed(v), was);
            Edge.is("count(6)", x.count(6), v);
            was = v;
        }
        Edge.is("status(-1)", x.status(-1), 0);
    }

    /** Each act of which more than one finding can hold, in a state in which they do. */
    private static void orderOfFindings() {
        Edge.says(T, "Each act tells its findings in the order in which they are asked (that of its words)");
        WordSupper x = Rooms.eight();
        Edge.is("speaker: BEYOND ahead of FULL", x.speaker(7), Check.BEYOND);
        Edge.is("feed: BEYOND ahead of FULL", x.feed(0, 5), Check.BEYOND);
        Edge.is("as: BEYOND ahead of MISSING", x.as(1, 7), Check.BEYOND);
        Edge.is("as: BEYOND ahead of KIND", x.as(4, 7), Check.BEYOND);
        Edge.is("when: BEYOND ahead of NONE", x.when(0, 5001), Check.BEYOND);
        Edge.is("fits: MISSING ahead of the second BEYOND", x.fits(3, 8), Check.MISSING);
        Edge.is("kinds: MISSING ahead of the second BEYOND", x.kinds(3, 8), Check.MISSING);
        Edge.is("fits: the first BEYOND", x.fits(4, 8), Check.BEYOND);
        Edge.is("sheet: BEYOND ahead of SIZE", x.sheet(4, 0, -1), Check.BEYOND);
        Edge.is("sheet: SIZE, and not the second BEYOND", x.sheet(0, 0, Integer.MIN_VALUE), Check.SIZE);
        Edge.is("write: MISSING ahead of the second BEYOND", x.write(3, 40, 0), Check.MISSING);
        Edge.is("copy: BEYOND ahead of MISSING", x.copy(3, 0, 4, 0, 1), Check.BEYOND);
        Edge.is("copy: MISSING ahead of KIND", x.copy(0, 0, 3, 0, 1), Check.MISSING);
        Edge.is("copy: MISSING ahead of the second BEYOND", x.copy(3, -1, 0, 0, 1), Check.MISSING);
        Edge.is("copy: KIND ahead of the second BEYOND", x.copy(0, -1, 1, 0, 1), Check.KIND);
        Edge.is("swapFor: BEYOND ahead of NONE", new WordSupper().swapFor(21), Check.BEYOND);
        WordSupper y = Check.told("cook plate 0 0 0 0 1");
        Edge.is("vinegarFor: BEYOND ahead of NONE", y.vinegarFor(0, 41), Check.BEYOND);
        Edge.is("silence: BEYOND ahead of NONE", y.silence(0, 13), Check.BEYOND);
        Edge.is("clean: NONE", y.clean(0), Check.NONE);
        Edge.is("BEYOND", y.status(0), 2);
        Edge.is("NONE", y.status(3), 1);
    }

    private static void quotients() {
        Edge.says(T, "Quotients are cut.");
        Edge.is("a tenth of fat 99", Check.told("lawyer fat 99").of(0, 4), 12 - 9);
        WordSupper x = Check.told("cook plate 0 0 0 0 0 7");
        x.go(1);
        Edge.is("a fourth of seven words", x.of(0, 2), 50 + 1 - 2);
        WordSupper y = Check.told("cook plate 0 9");
        y.go(1);
        Edge.is("thirteen bites by three", y.of(0, 3), 4);
    }

    private static void sets() {
        Edge.says(T, "Sets are told as bits");
        WordSupper x = Check.told("cook;cook;cook");
        for (int taste = 0; taste < 6; taste++) {
            x.serve(0, taste, 1);
            Edge.is("taste " + taste + " alone", x.of(0, 6), 1 << taste);
            x.serve(0, taste, 0);
        }
        Edge.is("no taste", x.of(0, 6), 0);
        x.serve(1, 0, 1);
        Edge.is("the first and the third one", x.now(2), 0b101);
    }

    private static void tastes() {
        Edge.says(T, "TASTES 0 to 5 (0 cream, 1 retort, 2 hard, 3 promise, 4 lie, 5 pears)");
        WordSupper x = Check.told("cook");
        for (int taste = 0; taste <= 5; taste++) {
            Edge.is("serve(0, " + taste + ", 9)", x.serve(0, taste, 9), 0);
            Edge.is("list(" + taste + ", 9)", x.list(taste, 9), 0);
        }
        Edge.is("serve(0, 6, 9)", x.serve(0, 6, 9), Check.BEYOND);
        Edge.is("serve(0, -1, 9)", x.serve(0, -1, 9), Check.BEYOND);
        Edge.is("left", x.of(0, 5), 54);
    }

    private static void leastOfSeveral() {
        Edge.says(T, "of several that would do the least number counts, where nothing else is told");
        WordSupper x = Check.told("cook;cook;cook plate 4;cook plate 4");
        Edge.is("now(5), two have most", x.now(5), 2);
        Edge.is("love(0, 9), all would do", x.love(0, 9), 1);
        Edge.is("love(1, 9), all would do", x.love(1, 9), 0);
        Edge.is("kindFor(1, 0), all would do", x.kindFor(1, 0), 0);
        Edge.is("unsay(9), all would do", x.unsay(9), 0);
        Edge.is("swapFor(9), all would do", x.swapFor(9), 1);
        Edge.is("silence(0, 9), the set of nobody would do", x.silence(0, 9), 0);
    }

    private static void firstState() {
        Edge.says(T, "VINEGAR (0 to 9; 1 at first)");
        Edge.is("vinegar", new WordSupper().vinegar(0), 1);
        Edge.says(T, "for each TASTE how many WORDS of it (0 to 20; 0 at first)");
        for (int taste = 0; taste < 6; taste++) {
            Edge.is("listed(" + taste + ")", new WordSupper().listed(taste), 0);
        }
        WordSupper x = new WordSupper();
        x.speaker(0);
        Edge.says(T, "how many WORDS of each TASTE (0 to 999; 0 at first)");
        for (int taste = 0; taste < 6; taste++) {
            Edge.is("plate(0, " + taste + ")", x.plate(0, taste), 0);
        }
        Edge.says(T, "LOVES another one (or -1: nobody, at first)");
        Edge.is("of(0, 1)", x.of(0, 1), -1);
        Edge.says(T, "FAT (0 to 99; 50 at first)");
        Edge.is("of(0, 2)", x.of(0, 2), 50);
        Edge.says(T, "ATE (how many WORDS; 0 to 99999; 0 at first)");
        Edge.is("of(0, 3)", x.of(0, 3), 0);
        Edge.says(T, "SPOTS 0 to 9 hold a SPEAKER or nothing (at first)");
        for (int spot = 0; spot <= 9; spot++) {
            Edge.is("as(" + spot + ", 0)", x.as(spot, 0), Check.MISSING);
        }
        Edge.says(T, "or MISSING (at first)");
        for (int s = 0; s <= 3; s++) {
            Edge.is("load(" + s + ")", x.load(s), Check.MISSING);
        }
    }

    private static void tenthsAreCut() {
        Edge.says(T, "LAWYER: as a SPEAKER, less a tenth (cut) of FAT.");
        WordSupper x = Check.told("lawyer");
        for (int fat = 0; fat <= 99; fat++) {
            x.change(0, 2, fat);
            Edge.is("appetite, fat " + fat, x.of(0, 4), 12 - (fat - fat % 10) / 10);
        }
    }

    private static void atMostZero() {
        Edge.says(T, "LIAR: as a LAWYER, less 3 (0 at least).");
        int[][] rows = {{0, 9}, {9, 9}, {10, 8}, {79, 2}, {80, 1}, {89, 1}, {90, 0}, {99, 0}};
        WordSupper x = Check.told("liar");
        for (int[] row : rows) {
            x.change(0, 2, row[0]);
            Edge.is("appetite, fat " + row[0], x.of(0, 4), row[1]);
        }
        x.change(0, 2, 99);
        x.serve(0, 5, 4);
        x.go(1);
        Edge.is("without appetite it takes pears alone", x.of(0, 3), 4);
        Edge.is("and no cream", x.plate(0, 0), 1);
    }

    private static void biteEdges() {
        Edge.says(T, "hard 5, promise 4, lie -1 (it can't be), pears 0.");
        WordSupper x = Check.told("speaker;child;saint;reader;liar");
        Edge.is("a lie", x.chews(0, 4), -1);
        Edge.is("pears", x.chews(0, 5), 0);
        Edge.says(T, "LIAR: as a LAWYER, but lie 9.");
        Edge.is("a lie", x.chews(4, 4), 9);
        Edge.says(T, "CHILD: as a SPEAKER, but hard -1.");
        Edge.is("hard", x.chews(1, 2), -1);
        Edge.says(T, "SAINT: as a CHILD, but hard 2.");
        Edge.is("hard", x.chews(2, 2), 2);
        Edge.says(T, "READER: as a SAINT, and 1 more for each TASTE that can be chewed.");
        Edge.is("a lie can't be, still", x.chews(3, 4), -1);
        Edge.is("pears", x.chews(3, 5), 1);
        Edge.is("hard", x.chews(3, 2), 3);
    }

    private static void allBites() {
        Edge.says(T, "CHEWS (bites for a WORD of a TASTE)");
        WordSupper x = Check.told("speaker;lawyer;child;saint;reader;cook;liar;vinegar 2");
        int[][] due = {
            {1, 5, 5, 4, -1, 0}, {1, 1, 5, 4, -1, 0}, {1, 5, -1, 4, -1, 0}, {1, 5, 2, 4, -1, 0}, {2, 6, 3, 5, -1, 1}, {1, 3, 5, 4, -1, 0}, {1, 1, 5, 4, 9, 0},
        };
        for (int kind = 0; kind < 7; kind++) {
            for (int taste = 0; taste < 6; taste++) {
                Edge.is("kind " + kind + ", taste " + taste, x.chews(kind, taste), due[kind][taste]);
            }
        }
    }

    private static void allTalk() {
        Edge.says(T, "TALKS (which WORDS it says on each DAY, besides): SPEAKER: one of cream. LAWYER: as a SPEAKER, and two retorts.");
        // On day 0 a liar tells a lie and a child says a hard word, on day 5 a saint says pears.
        int[][] onDay0 = {{1}, {1, 2}, {1, 0, 1}, {}, {0, 0, 0, 3}, {}, {1, 2, 0, 0, 1}};
        int[][] onDay5 = {{1}, {1, 2}, {1}, {0, 0, 0, 0, 0, 1}, {0, 0, 0, 3}, {}, {1, 2}};
        WordSupper x = Check.told("speaker;lawyer;child;saint;reader;cook;liar;list 0 3");
        for (int day = 0; day <= 5; day += 5) {
            int[][] due = day == 0 ? onDay0 : onDay5;
            for (int kind = 0; kind < 7; kind++) {
                for (int taste = 0; taste < 6; taste++) {
                    int words = taste < due[kind].length ? due[kind][taste] : 0;
                    Edge.is("kind " + kind + ", taste " + taste + ", day " + day, x.talks(kind, taste), words);
                }
            }
            x.go(5);
        }
    }

    private static void firstZ() {
        Edge.says(T, "z is told (1 at first)");
        Edge.is("seed(0)", new WordSupper().seed(0), 1);
        Edge.is("count(6)", new WordSupper().count(6), 1);
    }

    private static void retortsByVinegar() {
        WordSupper x = Check.told("speaker;lawyer;reader;cook;liar");
        for (int vinegar : new int[] {0, 9}) {
            x.vinegar(vinegar);
            Edge.says(T, "SPEAKER: cream 1, retort 3 and VINEGAR");
            Edge.is("a retort, vinegar " + vinegar, x.chews(0, 1), 3 + vinegar);
            Edge.says(T, "LAWYER: as a SPEAKER, but retort 1.");
            Edge.is("a retort, vinegar " + vinegar, x.chews(1, 1), 1);
            Edge.is("a liar's retort, vinegar " + vinegar, x.chews(4, 1), 1);
            Edge.says(T, "READER: as a SAINT, and 1 more");
            Edge.is("a retort, vinegar " + vinegar, x.chews(2, 1), 4 + vinegar);
            Edge.says(T, "COOK: as a SPEAKER without VINEGAR.");
            Edge.is("a retort, vinegar " + vinegar, x.chews(3, 1), 3);
        }
    }

    private static void appetitesByPlate() {
        Edge.says(T, "SAINT: as a CHILD, and 20, if its PLATE is empty.");
        WordSupper x = Check.told("saint;reader;child");
        Edge.is("an empty plate", x.of(0, 4), 26);
        for (int taste = 0; taste < 6; taste++) {
            x.serve(0, taste, 1);
            x.serve(1, taste, 1);
            Edge.is("one word of " + taste, x.of(0, 4), 6);
            Edge.is("a reader's appetite with one word of " + taste, x.of(1, 4), 10);
            x.serve(0, taste, 0);
            x.serve(1, taste, 0);
        }
        Edge.is("an empty plate again", x.of(0, 4), 26);
        Edge.says(T, "READER: as a SAINT, and 4.");
        Edge.is("an empty plate", x.of(1, 4), 30);
        Edge.says(T, "CHILD: half (cut) of a SPEAKER.");
        Edge.is("an empty plate", x.of(2, 4), 6);
    }

    private static void appetitesByVinegar() {
        Edge.says(T, "COOK: as a SPEAKER, and VINEGAR.");
        WordSupper x = Check.told("cook;speaker;lawyer fat 0");
        for (int vinegar : new int[] {0, 9}) {
            x.vinegar(vinegar);
            Edge.is("a cook's, vinegar " + vinegar, x.of(0, 4), 12 + vinegar);
            Edge.is("a speaker's, vinegar " + vinegar, x.of(1, 4), 12);
            Edge.is("a lawyer's, vinegar " + vinegar, x.of(2, 4), 12);
        }
    }

    private static void talkByDays() {
        WordSupper x = Check.told("liar;child;saint;reader");
        for (int day = 0; day <= 21; day++) {
            Edge.says(T, "and a lie, if DAY is even");
            Edge.is("day " + day, x.talks(0, 4), day % 2 == 0 ? 1 : 0);
            Edge.says(T, "and one hard, if DAY is a multiple of 3");
            Edge.is("day " + day, x.talks(1, 2), day == 0 || day == 3 || day == 6 || day == 9 || day == 12 || day == 15 || day == 18 || day == 21 ? 1 : 0);
            Edge.says(T, "SAINT: none, but one of pears, if DAY leaves 5 by 7.");
            Edge.is("day " + day, x.talks(2, 5), day == 5 || day == 12 || day == 19 ? 1 : 0);
            Edge.is("hard, day " + day, x.talks(2, 2), 0);
            Edge.is("a reader's pears, day " + day, x.talks(3, 5), 0);
            x.go(1);
        }
    }

    /** From both ends of an int, too: z wraps around there; from 1 a draw's highest bit is set. */
    private static void draws() {
        Edge.says(T, "each makes it z * 1103515245 + 12345 (an int), and gives z >>> 8");
        for (int first : new int[] {1, 0, -1, 2, 3, Integer.MAX_VALUE, Integer.MIN_VALUE, 1234567890}) {
            BigInteger once = drawn(BigInteger.valueOf(first));
            BigInteger twice = drawn(once);
            int taste = once.shiftRight(8).intValueExact() % 6;
            int words = twice.shiftRight(8).intValueExact() % 21;
            WordSupper x = new WordSupper();
            x.seed(first);
            x.talk(1);
            Edge.is("z behind two draws from " + first, x.count(6), twice.intValue());
            for (int other = 0; other < 6; other++) {
                Edge.is("listed(" + other + ") behind talk from " + first, x.listed(other), other == taste ? words : 0);
            }
        }
    }

    /** Worked out in whole numbers that have no end: the 32 lowest bits, none of these a sign. */
    private static BigInteger drawn(BigInteger z) {
        BigInteger next = z.multiply(BigInteger.valueOf(1103515245)).add(BigInteger.valueOf(12345));
        return next.mod(BigInteger.ONE.shiftLeft(32));
    }
}
