/** Objects with something in all that there is, and a look at all of it. */
final class Rooms {
    private Rooms() {
    }

    static WordSupper nobody() {
        return new WordSupper();
    }

    static WordSupper nobodyWithSheets() {
        WordSupper x = new WordSupper();
        lay(x, 0, 8, 1);
        lay(x, 2, 32, 1, 2);
        return x;
    }

    /** Three speakers; the tape has a text, sheet 3 is missing, spots 0, 4 and 9 hold one, an earlier image is kept. */
    static WordSupper three() {
        WordSupper x = Check.told("cook fat 3 plate 1 2 3 4 5 6;liar loves 0 fat 20 plate 7;saint loves 1;list 4 3;vinegar 4");
        x.seed(77);
        fill(x);
        Check.feed(x, "vinegar 7;list 2 3;cook fat 4");
        return x;
    }

    /** Three speakers, and an empty tape. */
    static WordSupper emptyTape() {
        WordSupper x = three();
        x.wipe();
        return x;
    }

    /** Eight speakers, and 120 bytes on the tape; else like three. */
    static WordSupper eight() {
        WordSupper x = Check.told("speaker fat 9 plate 9 1;lawyer loves 0;child plate 0 0 2;saint;reader loves 2;list 0 4");
        Check.read(x, "cook;liar loves 3;speaker plate 1 1 1 1 1 1");
        fill(x);
        Check.feed(x, String.format("%-120s", "vinegar 2;list 5 7"));
        return x;
    }

    private static void fill(WordSupper x) {
        x.hold(0, 2);
        x.hold(4, 1);
        x.image();
        x.go(2);
        x.list(1, 5);
        x.vinegar(6);
        x.change(2, 3, 9);
        x.hold(9, 0);
        x.seed(-5);
        lay(x, 0, 8, 3, 0, 20);
        lay(x, 1, 16, 5, 6);
        lay(x, 2, 32, 1, 2, 3, 4, 5, 6);
        x.vinegar(-1);
        x.as(1, 0);
        x.as(0, 1);
    }

    static void lay(WordSupper x, int s, int bits, int... numbers) {
        x.sheet(s, bits, numbers.length);
        for (int i = 0; i < numbers.length; i++) {
            x.write(s, i, numbers[i]);
        }
    }

    /** The table, what the tape tells, what is kept, the sheets; the object is of no use then. */
    static String all(WordSupper x) {
        StringBuilder seen = new StringBuilder(Check.seen(x));
        seen.append("text ").append(x.text()).append(' ').append(Check.seen(x));
        seen.append("kept ").append(x.undo()).append(' ').append(Check.seen(x));
        for (int s = 0; s < 4; s++) {
            seen.append(sheet(x, s));
        }
        return seen.toString();
    }

    /** The first numbers up to one that isn't 0 to 20, how many numbers there are, of how many bits. */
    static String sheet(WordSupper x, int s) {
        StringBuilder seen = new StringBuilder("sheet");
        int came = x.load(s);
        for (int taste = 0; taste < came; taste++) {
            seen.append(' ').append(x.listed(taste));
        }
        return seen.append(" of ").append(size(x, s)).append(" of ").append(bits(x, s)).append(" bits ").toString();
    }

    /** How many numbers a sheet has; a finding, if it is missing. */
    static int size(WordSupper x, int s) {
        int none = x.copy(s, 0, s, 0, 0);
        if (none != 0) {
            return none;
        }
        int least = 0;
        int most = 40;
        while (least < most) {
            int middle = (least + most + 1) / 2;
            if (x.copy(s, 0, s, 0, middle) == middle) {
                least = middle;
            } else {
                most = middle - 1;
            }
        }
        return least;
    }

    /** Of how many bits the numbers of a sheet are (its first number is another one then); 0, if there is none. */
    static int bits(WordSupper x, int s) {
        if (x.write(s, 0, (1 << 16) + (1 << 8)) != 1) {
            return 0;
        }
        if (x.load(s) > 0) {
            return 8;
        }
        x.write(s, 0, 1 << 16);
        return x.load(s) > 0 ? 16 : 32;
    }
}
