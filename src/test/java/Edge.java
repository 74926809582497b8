import java.io.IOException;
import java.io.UncheckedIOException;
import java.util.function.Supplier;
import java.util.function.ToLongFunction;

/** A test of an edge tells the promise and the sentence of the document, then calls and the answers that are due. */
final class Edge {
    private static String place = "";

    private Edge() {
    }

    static void says(int promise, String sentence) {
        place = (promise == Doc.TERMS ? "terms" : "promise " + promise) + ", \"" + sentence + "\"";
        try {
            Check.due(place + " stands in the document", Doc.has(promise, sentence) ? 1 : 0, 1);
        } catch (IOException e) {
            throw new UncheckedIOException(e);
        }
    }

    static void is(String call, long got, long due) {
        Check.due(place + ": " + call, got, due);
    }

    /** The call answers this finding, status() counts this one more, and nothing else is another than on a twin. */
    static void refused(Supplier<WordSupper> room, String call, int finding, ToLongFunction<WordSupper> act) {
        WordSupper asked = room.get();
        WordSupper twin = room.get();
        is(call, act.applyAsLong(asked), finding);
        for (int which = -1; which <= 6; which++) {
            int more = which == -1 || which == Check.BEYOND - finding ? 1 : 0;
            is("status(" + which + ") behind " + call, asked.status(which), twin.status(which) + more);
        }
        is("what is changed by " + call, Rooms.all(asked).equals(Rooms.all(twin)) ? 0 : 1, 0);
    }

    /** The call answers this, which is no finding, and nothing is another than on a twin. */
    static void onlyTells(Supplier<WordSupper> room, String call, long due, ToLongFunction<WordSupper> act) {
        WordSupper asked = room.get();
        WordSupper twin = room.get();
        is(call, act.applyAsLong(asked), due);
        is("status(-1) behind " + call, asked.status(-1), twin.status(-1));
        is("what is changed by " + call, Rooms.all(asked).equals(Rooms.all(twin)) ? 0 : 1, 0);
    }
}
