import java.util.function.Supplier;

/** Calls that take one number which may be wrong, and the wrong numbers. */
final class Some {
    static final int LOWEST = Integer.MIN_VALUE;
    static final int HIGHEST = Integer.MAX_VALUE;

    private Some() {
    }

    /** A call with one of its numbers left open. */
    interface Call {
        long answer(WordSupper x, int number);
    }

    /** Numbers for which there is no speaker, of three, of eight and of none. */
    static void noSpeaker(String call, Call act) {
        refused(Rooms::three, call + ", of three the speaker ", act, -1, 3, 7, 8, LOWEST, HIGHEST);
        refused(Rooms::eight, call + ", of eight the speaker ", act, 8);
        refused(Rooms::nobodyWithSheets, call + ", of none the speaker ", act, 0, -1);
    }

    static void noTaste(String call, Call act) {
        refused(Rooms::three, call + " of taste ", act, -1, 6, LOWEST, HIGHEST);
        refused(Rooms::eight, call + " of taste ", act, -1, 6);
    }

    static void noSheet(String call, Call act) {
        refused(Rooms::three, call + " of sheet ", act, -1, 4, LOWEST, HIGHEST);
    }

    /** Both neighbours of what is allowed, and what lies farthest from it. */
    static void outside(String call, int least, int most, Call act) {
        refused(Rooms::three, call, act, least - 1, most + 1, LOWEST, HIGHEST);
        refused(Rooms::eight, call, act, least - 1, most + 1);
    }

    static void refused(Supplier<WordSupper> room, String call, Call act, int... numbers) {
        for (int number : numbers) {
            Edge.refused(room, call + number, Check.BEYOND, x -> act.answer(x, number));
        }
    }
}
