/** A diet by which each must at supper swallow the day's words. README.md tells how it is used. */
public final class WordSupper {
    private static final int BEYOND = -1000001;
    private static final int FULL = -1000002;
    private static final int KIND = -1000003;
    private static final int NONE = -1000004;
    private static final int STATE = -1000005;
    private static final int MISSING = -1000006;
    private static final int SIZE = -1000007;
    private static final int FINDINGS = 7;

    private static final int TASTES = 6;
    private static final int KINDS = 7;
    private static final int SEATS = 8;
    private static final int SPOTS = 10;
    private static final int NOBODY = -1;
    private static final int NOTHING = -1;
    private static final int NO_SILENCE = 0;
    private static final int ANY = -1;

    private static final int MOST_VINEGAR = 9;
    private static final int MOST_LISTED = 20;
    private static final int MOST_WORDS = 999;
    private static final int MOST_FAT = 99;
    private static final int MOST_ATE = 99999;
    private static final int MOST_DAY = 99999;
    private static final int FARTHEST = 100;
    private static final int MOST_TRIED = 40;
    private static final int MORE_THAN_ALL = 1000000;

    private final Table table = new Table();
    private final Table kept = new Table();
    /** What is only tried happens here, so that no call has to make a table of its own. */
    private final Table spare = new Table();
    private final Sheets sheets = new Sheets();
    private final Tape tape = new Tape();
    private final int[] findings = new int[FINDINGS];
    private boolean isKept;

    public WordSupper() {
    }

    // ---- table, speakers

    public int vinegar(int v) {
        if (!isWithin(v, 0, MOST_VINEGAR)) {
            return finding(BEYOND);
        }
        int was = table.vinegar;
        table.vinegar = v;
        return was;
    }

    public int list(int taste, int v) {
        if (!isTaste(taste) || !isWithin(v, 0, MOST_LISTED)) {
            return finding(BEYOND);
        }
        int was = table.listed[taste];
        table.listed[taste] = v;
        return was;
    }

    public int listed(int taste) {
        if (!isTaste(taste)) {
            return finding(BEYOND);
        }
        return table.listed[taste];
    }

    public int speaker(int kind) {
        if (!isKind(kind)) {
            return finding(BEYOND);
        }
        if (table.isFull()) {
            return finding(FULL);
        }
        return table.seat(kind);
    }

    public int of(int speaker, int what) {
        if (!table.isSeat(speaker) || !isWithin(what, 0, Table.TRAITS - 1)) {
            return finding(BEYOND);
        }
        return table.trait(speaker, what);
    }

    public int change(int speaker, int what, int v) {
        if (!table.isSeat(speaker) || !canBecome(speaker, what, v)) {
            return finding(BEYOND);
        }
        switch (what) {
            case Table.OF_KIND: return exchange(table.kind, speaker, v);
            case Table.OF_LOVES: return exchange(table.loves, speaker, v);
            case Table.OF_FAT: return exchange(table.fat, speaker, v);
            default: return exchange(table.ate, speaker, v);
        }
    }

    private boolean canBecome(int speaker, int what, int v) {
        switch (what) {
            case Table.OF_KIND: return isKind(v);
            case Table.OF_LOVES: return v == NOBODY || (table.isSeat(v) && v != speaker);
            case Table.OF_FAT: return isWithin(v, 0, MOST_FAT);
            case Table.OF_ATE: return isWithin(v, 0, MOST_ATE);
            default: return false;
        }
    }

    private static int exchange(int[] row, int at, int v) {
        int was = row[at];
        row[at] = v;
        return was;
    }

    public int serve(int speaker, int taste, int v) {
        if (!table.isSeat(speaker) || !isTaste(taste) || !isWithin(v, 0, MOST_WORDS)) {
            return finding(BEYOND);
        }
        return exchange(table.plates, Table.at(speaker, taste), v);
    }

    public int plate(int speaker, int taste) {
        if (!table.isSeat(speaker) || !isTaste(taste)) {
            return finding(BEYOND);
        }
        return table.plates[Table.at(speaker, taste)];
    }

    public int chews(int speaker, int taste) {
        if (!table.isSeat(speaker) || !isTaste(taste)) {
            return finding(BEYOND);
        }
        return Habits.bites(table.kind[speaker], taste, table.vinegar);
    }

    public int talks(int speaker, int taste) {
        if (!table.isSeat(speaker) || !isTaste(taste)) {
            return finding(BEYOND);
        }
        return Habits.words(table.kind[speaker], taste, table.day);
    }

    // ---- days

    public int go(int n) {
        if (!isWithin(n, 1, 60)) {
            return finding(BEYOND);
        }
        if (table.day > MOST_DAY - n) {
            return finding(STATE);
        }
        table.passDays(n, NO_SILENCE);
        return table.allLeft();
    }

    public int now(int what) {
        switch (what) {
            case 0: return table.day;
            case 1: return table.allLeft();
            case 2: return table.cleanOnes();
            case 3: return table.allOf(table.fat);
            case 4: return table.allOf(table.ate);
            case 5: return table.fullest();
            case 6: return table.lovedOnes();
            default: return finding(BEYOND);
        }
    }

    // ---- what will be (nothing changes)

    public int ahead(int speaker, int what, int n) {
        boolean isTold = what == Table.OF_FAT || what == Table.OF_ATE || what == Table.OF_LEFT;
        if (!table.isSeat(speaker) || !isTold || !isWithin(n, 0, FARTHEST)) {
            return finding(BEYOND);
        }
        spare.become(table);
        spare.passDays(n, NO_SILENCE);
        return spare.trait(speaker, what);
    }

    public int served(int speaker, int taste, int n) {
        if (!table.isSeat(speaker) || !isTaste(taste) || !isWithin(n, 0, FARTHEST)) {
            return finding(BEYOND);
        }
        spare.become(table);
        spare.passDays(n, NO_SILENCE);
        return spare.plates[Table.at(speaker, taste)];
    }

    public int clean(int speaker) {
        if (!table.isSeat(speaker)) {
            return finding(BEYOND);
        }
        return firstDay(speaker, Table.OF_LEFT, 0, 0);
    }

    public int when(int speaker, int v) {
        if (!table.isSeat(speaker) || !isWithin(v, 0, 5000)) {
            return finding(BEYOND);
        }
        return firstDay(speaker, Table.OF_LEFT, v, MORE_THAN_ALL);
    }

    public int thin(int speaker) {
        if (!table.isSeat(speaker)) {
            return finding(BEYOND);
        }
        return firstDay(speaker, Table.OF_FAT, 0, 0);
    }

    private int firstDay(int speaker, int what, int least, int most) {
        spare.become(table);
        for (int days = 0; days <= FARTHEST; days++) {
            if (isWithin(spare.trait(speaker, what), least, most)) {
                return days;
            }
            spare.passDay(NO_SILENCE);
        }
        return finding(NONE);
    }

    // ---- what to do

    public int love(int speaker, int n) {
        if (!table.isSeat(speaker) || !isWithin(n, 0, MOST_TRIED)) {
            return finding(BEYOND);
        }
        int best = NOBODY;
        int least = MORE_THAN_ALL;
        for (int i = 0; i <= table.seats; i++) {
            int loved = i < table.seats ? i : NOBODY;
            if (loved == speaker) {
                continue;
            }
            spare.become(table);
            spare.loves[speaker] = loved;
            spare.passDays(n, NO_SILENCE);
            if (spare.allLeft() < least) {
                least = spare.allLeft();
                best = loved;
            }
        }
        return best;
    }

    public int kindFor(int speaker, int n) {
        if (!table.isSeat(speaker) || !isWithin(n, 0, MOST_TRIED)) {
            return finding(BEYOND);
        }
        int best = 0;
        int least = MORE_THAN_ALL;
        for (int kind = 0; kind < KINDS; kind++) {
            spare.become(table);
            spare.kind[speaker] = kind;
            spare.passDays(n, NO_SILENCE);
            if (spare.left(speaker) < least) {
                least = spare.left(speaker);
                best = kind;
            }
        }
        return best;
    }

    public int vinegarFor(int speaker, int n) {
        if (!table.isSeat(speaker) || !isWithin(n, 0, MOST_TRIED)) {
            return finding(BEYOND);
        }
        for (int v = MOST_VINEGAR; v >= 0; v--) {
            spare.become(table);
            spare.vinegar = v;
            spare.passDays(n, NO_SILENCE);
            if (spare.left(speaker) == 0) {
                return v;
            }
        }
        return finding(NONE);
    }

    public int unsay(int n) {
        if (!isWithin(n, 0, MOST_TRIED)) {
            return finding(BEYOND);
        }
        int best = 0;
        int least = MORE_THAN_ALL;
        for (int taste = 0; taste < TASTES; taste++) {
            spare.become(table);
            spare.listed[taste] = 0;
            spare.passDays(n, NO_SILENCE);
            if (spare.allLeft() < least) {
                least = spare.allLeft();
                best = taste;
            }
        }
        return best;
    }

    public int silence(int speaker, int n) {
        if (!table.isSeat(speaker) || !isWithin(n, 0, 12)) {
            return finding(BEYOND);
        }
        int sets = 1 << table.seats;
        for (int size = 0; size <= table.seats; size++) {
            for (int set = 0; set < sets; set++) {
                if (Integer.bitCount(set) != size) {
                    continue;
                }
                spare.become(table);
                spare.passDays(n, set);
                if (spare.left(speaker) == 0) {
                    return set;
                }
            }
        }
        return finding(NONE);
    }

    public int swapFor(int n) {
        if (!isWithin(n, 0, 20)) {
            return finding(BEYOND);
        }
        if (table.seats < 2) {
            return finding(NONE);
        }
        int best = 0;
        int least = MORE_THAN_ALL;
        for (int one = 0; one < table.seats; one++) {
            for (int other = one + 1; other < table.seats; other++) {
                spare.become(table);
                spare.swapPlates(one, other);
                spare.passDays(n, NO_SILENCE);
                if (spare.allLeft() < least) {
                    least = spare.allLeft();
                    best = 8 * one + other;
                }
            }
        }
        return best;
    }

    // ---- told plates

    public int fits(int s, int speaker) {
        int wrong = wrongTold(s, speaker);
        if (wrong != 0) {
            return finding(wrong);
        }
        int set = 0;
        for (int taste = 0; taste < TASTES; taste++) {
            spare.become(table);
            spare.say(speaker, taste, 1);
            if (isAsTold(s, speaker)) {
                set |= 1 << taste;
            }
        }
        return set;
    }

    public int kinds(int s, int speaker) {
        int wrong = wrongTold(s, speaker);
        if (wrong != 0) {
            return finding(wrong);
        }
        int set = 0;
        for (int kind = 0; kind < KINDS; kind++) {
            spare.become(table);
            spare.kind[speaker] = kind;
            if (isAsTold(s, speaker)) {
                set |= 1 << kind;
            }
        }
        return set;
    }

    /** The finding that a sheet and a speaker earn, or 0. */
    private int wrongTold(int s, int speaker) {
        int wrong = wrongSheet(s);
        if (wrong == 0 && !table.isSeat(speaker)) {
            return BEYOND;
        }
        return wrong;
    }

    /** Days go by on the spare table as long as it is as the sheet tells. */
    private boolean isAsTold(int s, int speaker) {
        for (int i = 0; i < sheets.size[s]; i++) {
            if (i > 0) {
                spare.passDay(NO_SILENCE);
            }
            int told = sheets.number(s, i);
            if (told != ANY && told != spare.left(speaker)) {
                return false;
            }
        }
        return true;
    }

    // ---- talk

    public int talk(int n) {
        if (!isWithin(n, 1, 20)) {
            return finding(BEYOND);
        }
        if (table.day > MOST_DAY - n) {
            return finding(STATE);
        }
        for (int i = 0; i < n; i++) {
            int taste = table.draw() % TASTES;
            int words = table.draw() % (MOST_LISTED + 1);
            if (isTaste(taste)) {
                table.listed[taste] = words;
            }
            table.passDay(NO_SILENCE);
        }
        return table.allLeft();
    }

    public long odds(int speaker, int n, int what) {
        if (!table.isSeat(speaker) || !isWithin(n, 0, 23) || !isWithin(what, 0, 1)) {
            return finding(BEYOND);
        }
        int chewable = 0;
        for (int taste = 0; taste < TASTES; taste++) {
            if (Habits.bites(table.kind[speaker], taste, table.vinegar) >= 0) {
                chewable++;
            }
        }
        // A power of a fraction in lowest terms is in lowest terms, too.
        if (what == 0) {
            return power(lowest(chewable, TASTES), n);
        }
        return power(lowest(TASTES, chewable), n);
    }

    /** One of two numbers without what it has in common with the other. */
    private static int lowest(int one, int other) {
        for (int divisor = TASTES; divisor > 1; divisor--) {
            if (one % divisor == 0 && other % divisor == 0) {
                return one / divisor;
            }
        }
        return one;
    }

    private static long power(long base, int n) {
        long product = 1;
        for (int i = 0; i < n; i++) {
            product *= base;
        }
        return product;
    }

    public int seed(int v) {
        int was = table.z;
        table.z = v;
        return was;
    }

    // ---- texts

    public int feed(int bytes, int n) {
        if (!isWithin(n, 1, 4)) {
            return finding(BEYOND);
        }
        if (tape.size > Tape.MOST - n) {
            return finding(FULL);
        }
        for (int i = n - 1; i >= 0; i--) {
            tape.add((byte) (bytes >> (8 * i)));
        }
        return tape.size;
    }

    public int wipe() {
        int had = tape.size;
        tape.size = 0;
        return had;
    }

    public int text() {
        spare.become(table);
        int items = tape.tell(spare);
        if (items >= 0) {
            table.become(spare);
        }
        tape.size = 0;
        return items;
    }

    // ---- spots, sheets

    public int hold(int spot, int speaker) {
        boolean canHold = speaker == NOTHING || table.isSeat(speaker);
        if (!isWithin(spot, 0, SPOTS - 1) || !canHold) {
            return finding(BEYOND);
        }
        table.spots[spot] = speaker;
        return 1;
    }

    public int as(int spot, int kind) {
        if (!isWithin(spot, 0, SPOTS - 1) || !isKind(kind)) {
            return finding(BEYOND);
        }
        int held = table.spots[spot];
        if (!table.isSeat(held)) {
            return finding(MISSING);
        }
        if (!Habits.isUnder(table.kind[held], kind)) {
            return finding(KIND);
        }
        return held;
    }

    public int sheet(int s, int bits, int n) {
        boolean isWidth = bits == 0 || bits == 8 || bits == 16 || bits == 32;
        if (!Sheets.isSheet(s) || !isWidth) {
            return finding(BEYOND);
        }
        if (n < 0) {
            return finding(SIZE);
        }
        if (n > Sheets.LONGEST) {
            return finding(BEYOND);
        }
        sheets.lay(s, bits, bits == 0 ? 0 : n);
        return sheets.size[s];
    }

    public int write(int s, int i, int v) {
        int wrong = wrongSheet(s);
        if (wrong != 0) {
            return finding(wrong);
        }
        if (!isWithin(i, 0, sheets.size[s] - 1)) {
            return finding(BEYOND);
        }
        sheets.put(s, i, v);
        return 1;
    }

    public int copy(int s, int from, int t, int to, int n) {
        if (!Sheets.isSheet(s) || !Sheets.isSheet(t)) {
            return finding(BEYOND);
        }
        if (sheets.isMissing(s) || sheets.isMissing(t)) {
            return finding(MISSING);
        }
        if (sheets.bits[s] != sheets.bits[t]) {
            return finding(KIND);
        }
        if (!sheets.hasRun(s, from, n) || !sheets.hasRun(t, to, n)) {
            return finding(BEYOND);
        }
        sheets.bring(s, from, t, to, n);
        return n;
    }

    public int load(int s) {
        int wrong = wrongSheet(s);
        if (wrong != 0) {
            return finding(wrong);
        }
        int came = 0;
        int most = Math.min(TASTES, sheets.size[s]);
        while (came < most && isWithin(sheets.number(s, came), 0, MOST_LISTED)) {
            table.listed[came] = sheets.number(s, came);
            came++;
        }
        return came;
    }

    public int judge(int s) {
        int wrong = wrongSheet(s);
        if (wrong != 0) {
            return finding(wrong);
        }
        for (int i = 0; i < sheets.size[s]; i++) {
            if (!table.isSeat(i) || table.left(i) != sheets.number(s, i)) {
                return 1 + i;
            }
        }
        return 0;
    }

    /** The finding that a sheet earns, or 0. */
    private int wrongSheet(int s) {
        if (!Sheets.isSheet(s)) {
            return BEYOND;
        }
        return sheets.isMissing(s) ? MISSING : 0;
    }

    // ---- images

    public int image() {
        kept.become(table);
        isKept = true;
        return 1;
    }

    public int undo() {
        if (!isKept) {
            return finding(NONE);
        }
        table.become(kept);
        return table.day;
    }

    public int tear() {
        int torn = isKept ? 1 : 0;
        isKept = false;
        return torn;
    }

    public int count(int what) {
        switch (what) {
            case 0: return table.day;
            case 1: return table.seats;
            case 2: return table.allLeft();
            case 3: return table.allOf(table.ate);
            case 4: return table.allOf(table.fat);
            case 5: return tape.size;
            case 6: return table.z;
            case 7: return table.heldSpots();
            default: return finding(BEYOND);
        }
    }

    public int status(int which) {
        if (!isWithin(which, -1, FINDINGS - 1)) {
            return finding(BEYOND);
        }
        if (which >= 0) {
            return findings[which];
        }
        int all = 0;
        for (int i = 0; i < FINDINGS; i++) {
            all += findings[i];
        }
        return all;
    }

    private int finding(int told) {
        int which = BEYOND - told;
        if (isWithin(which, 0, FINDINGS - 1)) {
            findings[which]++;
        }
        return told;
    }

    private static boolean isWithin(int v, int least, int most) {
        return v >= least && v <= most;
    }

    private static boolean isTaste(int taste) {
        return isWithin(taste, 0, TASTES - 1);
    }

    private static boolean isKind(int kind) {
        return isWithin(kind, 0, KINDS - 1);
    }

    /** What the kinds have in common and in what they differ. */
    private static final class Habits {
        private static final int SPEAKER = 0;
        private static final int LAWYER = 1;
        private static final int CHILD = 2;
        private static final int SAINT = 3;
        private static final int READER = 4;
        private static final int COOK = 5;
        private static final int LIAR = 6;

        private static final int CREAM = 0;
        private static final int RETORT = 1;
        private static final int HARD = 2;
        private static final int PROMISE = 3;
        private static final int LIE = 4;

        private static final int CANNOT = -1;

        static boolean isUnder(int kind, int above) {
            int now = kind;
            for (int step = 0; step < KINDS; step++) {
                if (now == above) {
                    return true;
                }
                now = parent(now);
            }
            return false;
        }

        private static int parent(int kind) {
            switch (kind) {
                case SAINT: return CHILD;
                case READER: return SAINT;
                case LIAR: return LAWYER;
                default: return SPEAKER;
            }
        }

        private static boolean isLegal(int kind) {
            return kind == LAWYER || kind == LIAR;
        }

        static int bites(int kind, int taste, int vinegar) {
            int more = kind == READER ? 1 : 0;
            switch (taste) {
                case CREAM:
                    return 1 + more;
                case RETORT:
                    if (isLegal(kind)) {
                        return 1;
                    }
                    return kind == COOK ? 3 : 3 + vinegar + more;
                case HARD:
                    if (kind == CHILD) {
                        return CANNOT;
                    }
                    return kind == SAINT || kind == READER ? 2 + more : 5;
                case PROMISE:
                    return 4 + more;
                case LIE:
                    return kind == LIAR ? 9 : CANNOT;
                default:
                    return more;
            }
        }

        static int hunger(int kind, int fat, int vinegar, boolean isClean) {
            int plain = 12;
            int legal = plain - fat / 10;
            int saintly = plain / 2 + (isClean ? 20 : 0);
            switch (kind) {
                case LAWYER: return legal;
                case LIAR: return Math.max(0, legal - 3);
                case CHILD: return plain / 2;
                case SAINT: return saintly;
                case READER: return saintly + 4;
                case COOK: return plain + vinegar;
                default: return plain;
            }
        }

        static int words(int kind, int taste, int day) {
            switch (taste) {
                case CREAM: return kind == SPEAKER || kind == CHILD || isLegal(kind) ? 1 : 0;
                case RETORT: return isLegal(kind) ? 2 : 0;
                case HARD: return kind == CHILD && day % 3 == 0 ? 1 : 0;
                case PROMISE: return kind == READER ? 3 : 0;
                case LIE: return kind == LIAR && day % 2 == 0 ? 1 : 0;
                default: return kind == SAINT && day % 7 == 5 ? 1 : 0;
            }
        }
    }

    /** All that an image keeps, and how a day goes by for it. */
    private static final class Table {
        static final int OF_KIND = 0;
        static final int OF_LOVES = 1;
        static final int OF_FAT = 2;
        static final int OF_ATE = 3;
        static final int OF_APPETITE = 4;
        static final int OF_LEFT = 5;
        static final int TRAITS = 7;

        int day;
        int vinegar = 1;
        int z = 1;
        int seats;
        /** Those of the one who is at supper now. */
        private int bitesLeft;
        final int[] listed = new int[TASTES];
        final int[] kind = new int[SEATS];
        final int[] loves = new int[SEATS];
        final int[] fat = new int[SEATS];
        final int[] ate = new int[SEATS];
        final int[] plates = new int[SEATS * TASTES];
        final int[] spots = new int[SPOTS];

        Table() {
            for (int i = 0; i < SPOTS; i++) {
                spots[i] = NOTHING;
            }
        }

        static int at(int speaker, int taste) {
            return speaker * TASTES + taste;
        }

        void become(Table other) {
            day = other.day;
            vinegar = other.vinegar;
            z = other.z;
            seats = other.seats;
            System.arraycopy(other.listed, 0, listed, 0, TASTES);
            System.arraycopy(other.kind, 0, kind, 0, SEATS);
            System.arraycopy(other.loves, 0, loves, 0, SEATS);
            System.arraycopy(other.fat, 0, fat, 0, SEATS);
            System.arraycopy(other.ate, 0, ate, 0, SEATS);
            System.arraycopy(other.plates, 0, plates, 0, SEATS * TASTES);
            System.arraycopy(other.spots, 0, spots, 0, SPOTS);
        }

        boolean isSeat(int speaker) {
            return speaker >= 0 && speaker < seats;
        }

        boolean isFull() {
            return seats >= SEATS;
        }

        /** Whoever calls has seen that it is not full. */
        int seat(int newKind) {
            int speaker = seats;
            seats++;
            kind[speaker] = newKind;
            loves[speaker] = NOBODY;
            fat[speaker] = 50;
            ate[speaker] = 0;
            for (int taste = 0; taste < TASTES; taste++) {
                plates[at(speaker, taste)] = 0;
            }
            return speaker;
        }

        /** The last of the traits is what tastes are on the plate. */
        int trait(int speaker, int what) {
            switch (what) {
                case OF_KIND: return kind[speaker];
                case OF_LOVES: return loves[speaker];
                case OF_FAT: return fat[speaker];
                case OF_ATE: return ate[speaker];
                case OF_APPETITE: return appetite(speaker);
                case OF_LEFT: return left(speaker);
                default: return tastesOn(speaker);
            }
        }

        int draw() {
            z = z * 1103515245 + 12345;
            return z >>> 8;
        }

        int left(int speaker) {
            int words = 0;
            for (int taste = 0; taste < TASTES; taste++) {
                words += plates[at(speaker, taste)];
            }
            return words;
        }

        int allLeft() {
            int words = 0;
            for (int speaker = 0; speaker < seats; speaker++) {
                words += left(speaker);
            }
            return words;
        }

        int allOf(int[] row) {
            int all = 0;
            for (int speaker = 0; speaker < seats; speaker++) {
                all += row[speaker];
            }
            return all;
        }

        int tastesOn(int speaker) {
            int set = 0;
            for (int taste = 0; taste < TASTES; taste++) {
                if (plates[at(speaker, taste)] > 0) {
                    set |= 1 << taste;
                }
            }
            return set;
        }

        int cleanOnes() {
            int set = 0;
            for (int speaker = 0; speaker < seats; speaker++) {
                if (left(speaker) == 0) {
                    set |= 1 << speaker;
                }
            }
            return set;
        }

        int lovedOnes() {
            int set = 0;
            for (int speaker = 0; speaker < seats; speaker++) {
                if (isSeat(loves[speaker])) {
                    set |= 1 << loves[speaker];
                }
            }
            return set;
        }

        int fullest() {
            int best = NOBODY;
            int most = -1;
            for (int speaker = 0; speaker < seats; speaker++) {
                if (left(speaker) > most) {
                    most = left(speaker);
                    best = speaker;
                }
            }
            return best;
        }

        int heldSpots() {
            int held = 0;
            for (int spot = 0; spot < SPOTS; spot++) {
                if (spots[spot] != NOTHING) {
                    held++;
                }
            }
            return held;
        }

        int appetite(int speaker) {
            return Habits.hunger(kind[speaker], fat[speaker], vinegar, left(speaker) == 0);
        }

        void swapPlates(int one, int other) {
            for (int taste = 0; taste < TASTES; taste++) {
                int words = plates[at(one, taste)];
                plates[at(one, taste)] = plates[at(other, taste)];
                plates[at(other, taste)] = words;
            }
        }

        void passDays(int n, int silent) {
            for (int i = 0; i < n; i++) {
                passDay(silent);
            }
        }

        /** The speakers of the set that is told say nothing. */
        void passDay(int silent) {
            for (int speaker = 0; speaker < seats; speaker++) {
                if ((silent >> speaker & 1) == 0) {
                    sayAll(speaker);
                }
            }
            for (int speaker = 0; speaker < seats; speaker++) {
                sup(speaker);
            }
            day = Math.min(MOST_DAY, day + 1);
        }

        private void sayAll(int speaker) {
            boolean saysList = day % 8 == speaker;
            for (int taste = 0; taste < TASTES; taste++) {
                int words = Habits.words(kind[speaker], taste, day);
                if (saysList) {
                    words += listed[taste];
                }
                if (words > 0) {
                    say(speaker, taste, words);
                }
            }
        }

        void say(int speaker, int taste, int words) {
            int place = at(speaker, taste);
            plates[place] = Math.min(MOST_WORDS, plates[place] + words);
        }

        private void sup(int eater) {
            bitesLeft = appetite(eater);
            int words = swallow(eater, eater);
            if (isSeat(loves[eater])) {
                words += swallow(eater, loves[eater]);
            }
            fat[eater] = Math.max(0, Math.min(MOST_FAT, fat[eater] + words / 4) - 2);
            ate[eater] = Math.min(MOST_ATE, ate[eater] + words);
        }

        /** One eats by its own bites, whosever the plate is. */
        private int swallow(int eater, int host) {
            int swallowed = 0;
            for (int taste = 0; taste < TASTES; taste++) {
                int words = plates[at(host, taste)];
                if (words > 0) {
                    int gone = mouthful(Habits.bites(kind[eater], taste, vinegar), words);
                    plates[at(host, taste)] = words - gone;
                    swallowed += gone;
                }
            }
            return swallowed;
        }

        private int mouthful(int bites, int words) {
            if (bites < 0) {
                return 0;
            }
            if (bites == 0) {
                return words;
            }
            int gone = Math.min(words, bitesLeft / bites);
            bitesLeft -= gone * bites;
            return gone;
        }
    }

    /** The sheets side by side in one row, each with room for the longest. */
    private static final class Sheets {
        static final int LONGEST = 40;
        private static final int SHEETS = 4;

        final int[] bits = new int[SHEETS];
        final int[] size = new int[SHEETS];
        private final int[] numbers = new int[SHEETS * LONGEST];

        static boolean isSheet(int s) {
            return s >= 0 && s < SHEETS;
        }

        boolean isMissing(int s) {
            return bits[s] == 0;
        }

        void lay(int s, int newBits, int n) {
            bits[s] = newBits;
            size[s] = n;
            for (int i = 0; i < LONGEST; i++) {
                numbers[s * LONGEST + i] = 0;
            }
        }

        int number(int s, int i) {
            return numbers[s * LONGEST + i];
        }

        void put(int s, int i, int v) {
            numbers[s * LONGEST + i] = cut(v, bits[s]);
        }

        private static int cut(int v, int bits) {
            if (bits == 8) {
                return (byte) v;
            }
            return bits == 16 ? (short) v : v;
        }

        boolean hasRun(int s, int from, int n) {
            return from >= 0 && n >= 0 && n <= size[s] && from <= size[s] - n;
        }

        /** arraycopy brings the numbers as they all were, also within one sheet. */
        void bring(int s, int from, int t, int to, int n) {
            System.arraycopy(numbers, s * LONGEST + from, numbers, t * LONGEST + to, n);
        }
    }

    /** The tape, read token by token; the token that was looked at last tells where a fault is. */
    private static final class Tape {
        static final int MOST = 120;
        private static final int END = 0;
        private static final int WORD = 1;
        private static final int NUMBER = 2;
        private static final int SIGN = 3;
        private static final int UNKNOWN = 4;
        /** A number stays here when it grows above all that may be told. */
        private static final int TOO_MUCH = 1000;

        int size;
        private final byte[] bytes = new byte[MOST];
        private int token;
        private int begin;
        private int end;
        private int value;

        void add(byte b) {
            if (size < MOST) {
                bytes[size] = b;
                size++;
            }
        }

        /** The items, all told to a table; or -1 less the fault, and what the table is then is of no use. */
        int tell(Table told) {
            end = 0;
            step();
            for (int items = 1; items <= MOST; items++) {
                if (!isItem(told)) {
                    return -1 - begin;
                }
                if (token == END) {
                    return items;
                }
                if (token != SIGN) {
                    return -1 - begin;
                }
                step();
            }
            return -1 - begin;
        }

        private boolean isItem(Table told) {
            if (isWord("list")) {
                return isList(told);
            }
            if (isWord("vinegar")) {
                return isVinegar(told);
            }
            int kind = kindTold();
            if (kind < 0 || told.isFull()) {
                return false;
            }
            return isSpeaker(told, told.seat(kind));
        }

        private int kindTold() {
            if (isWord("speaker")) {
                return Habits.SPEAKER;
            }
            if (isWord("lawyer")) {
                return Habits.LAWYER;
            }
            if (isWord("child")) {
                return Habits.CHILD;
            }
            if (isWord("saint")) {
                return Habits.SAINT;
            }
            if (isWord("reader")) {
                return Habits.READER;
            }
            if (isWord("cook")) {
                return Habits.COOK;
            }
            return isWord("liar") ? Habits.LIAR : -1;
        }

        private boolean isSpeaker(Table told, int speaker) {
            step();
            if (isWord("loves")) {
                step();
                if (!isNumber(speaker - 1)) {
                    return false;
                }
                told.loves[speaker] = value;
                step();
            }
            if (isWord("fat")) {
                step();
                if (!isNumber(MOST_FAT)) {
                    return false;
                }
                told.fat[speaker] = value;
                step();
            }
            return !isWord("plate") || isPlate(told, speaker);
        }

        private boolean isPlate(Table told, int speaker) {
            step();
            if (!isNumber(MOST_WORDS)) {
                return false;
            }
            for (int taste = 0; taste < TASTES && isNumber(MOST_WORDS); taste++) {
                told.plates[Table.at(speaker, taste)] = value;
                step();
            }
            return true;
        }

        private boolean isList(Table told) {
            step();
            if (!isNumber(TASTES - 1)) {
                return false;
            }
            int taste = value;
            step();
            if (!isNumber(MOST_LISTED)) {
                return false;
            }
            told.listed[taste] = value;
            step();
            return true;
        }

        private boolean isVinegar(Table told) {
            step();
            if (!isNumber(MOST_VINEGAR)) {
                return false;
            }
            told.vinegar = value;
            step();
            return true;
        }

        private boolean isNumber(int most) {
            return token == NUMBER && value <= most;
        }

        private boolean isWord(String word) {
            if (token != WORD || end - begin != word.length()) {
                return false;
            }
            for (int i = 0; i < word.length(); i++) {
                if (bytes[begin + i] != word.charAt(i)) {
                    return false;
                }
            }
            return true;
        }

        private void step() {
            begin = end;
            while (begin < size && bytes[begin] == ' ') {
                begin++;
            }
            end = begin;
            if (begin >= size) {
                token = END;
            } else if (isLetter(bytes[begin])) {
                token = WORD;
                while (end < size && isLetter(bytes[end])) {
                    end++;
                }
            } else if (isDigit(bytes[begin])) {
                token = NUMBER;
                value = 0;
                while (end < size && isDigit(bytes[end])) {
                    value = Math.min(TOO_MUCH, value * 10 + bytes[end] - '0');
                    end++;
                }
            } else {
                token = bytes[begin] == ';' ? SIGN : UNKNOWN;
                end++;
            }
        }

        private static boolean isLetter(int b) {
            return b >= 'a' && b <= 'z';
        }

        private static boolean isDigit(int b) {
            return b >= '0' && b <= '9';
        }
    }
}
