import java.util.LinkedHashMap;
import java.util.Map;
import java.util.function.ToLongFunction;

/** What each act answers first, that it changes nothing but status() then, and what status() counts. */
final class FindingsTest {
    private final Map<String, ToLongFunction<WordSupper>> acts = new LinkedHashMap<>();
    private final Map<String, Integer> due = new LinkedHashMap<>();

    private FindingsTest() {
    }

    static void run() {
        FindingsTest table = new FindingsTest();
        table.tableActs();
        table.dayActs();
        table.counselActs();
        table.otherActs();
        table.sheetActs();
        table.check();
    }

    /** Eight speakers, so that a 9th is one too many; a full tape; sheets 0 and 1 of other bits, sheet 2 is missing. */
    private static WordSupper full() {
        WordSupper x = Check.told("cook fat 3 plate 1 2 3 4 5;liar loves 0;saint;child;reader;lawyer;cook;speaker;list 4 3");
        x.hold(1, 1);
        x.go(3);
        x.seed(9);
        x.sheet(0, 8, 3);
        x.write(0, 1, 3);
        x.sheet(1, 16, 3);
        for (int i = 0; i < 30; i++) {
            x.feed(i, 4);
        }
        return x;
    }

    private void add(String call, int finding, ToLongFunction<WordSupper> act) {
        acts.put(call, act);
        due.put(call, finding);
    }

    private void tableActs() {
        add("vinegar(10)", Check.BEYOND, x -> x.vinegar(10));
        add("list(6, 0)", Check.BEYOND, x -> x.list(6, 0));
        add("list(0, 21)", Check.BEYOND, x -> x.list(0, 21));
        add("listed(6)", Check.BEYOND, x -> x.listed(6));
        add("speaker(7)", Check.BEYOND, x -> x.speaker(7));
        add("speaker(0)", Check.FULL, x -> x.speaker(0));
        add("of(8, 0)", Check.BEYOND, x -> x.of(8, 0));
        add("change(0, 1, 0)", Check.BEYOND, x -> x.change(0, 1, 0));
        add("change(0, 0, 7)", Check.BEYOND, x -> x.change(0, 0, 7));
        add("serve(0, 0, 1000)", Check.BEYOND, x -> x.serve(0, 0, 1000));
        add("plate(0, 6)", Check.BEYOND, x -> x.plate(0, 6));
        add("chews(8, 0)", Check.BEYOND, x -> x.chews(8, 0));
        add("talks(0, -1)", Check.BEYOND, x -> x.talks(0, -1));
    }

    private void dayActs() {
        add("go(61)", Check.BEYOND, x -> x.go(61));
        add("now(7)", Check.BEYOND, x -> x.now(7));
        add("ahead(0, 4, 1)", Check.BEYOND, x -> x.ahead(0, 4, 1));
        add("served(0, 0, 101)", Check.BEYOND, x -> x.served(0, 0, 101));
        add("clean(8)", Check.BEYOND, x -> x.clean(8));
        add("clean(0)", Check.NONE, x -> x.clean(0));
        add("when(0, 5001)", Check.BEYOND, x -> x.when(0, 5001));
        add("when(0, 5000)", Check.NONE, x -> x.when(0, 5000));
        add("thin(8)", Check.BEYOND, x -> x.thin(8));
    }

    private void counselActs() {
        add("love(0, 41)", Check.BEYOND, x -> x.love(0, 41));
        add("kindFor(8, 1)", Check.BEYOND, x -> x.kindFor(8, 1));
        add("vinegarFor(0, 41)", Check.BEYOND, x -> x.vinegarFor(0, 41));
        add("vinegarFor(0, 2)", Check.NONE, x -> x.vinegarFor(0, 2));
        add("unsay(41)", Check.BEYOND, x -> x.unsay(41));
        add("silence(0, 13)", Check.BEYOND, x -> x.silence(0, 13));
        add("silence(0, 12)", Check.NONE, x -> x.silence(0, 12));
        add("swapFor(21)", Check.BEYOND, x -> x.swapFor(21));
    }

    private void otherActs() {
        add("talk(21)", Check.BEYOND, x -> x.talk(21));
        add("odds(0, 24, 0)", Check.BEYOND, x -> x.odds(0, 24, 0));
        add("feed(0, 5)", Check.BEYOND, x -> x.feed(0, 5));
        add("feed(0, 1)", Check.FULL, x -> x.feed(0, 1));
        add("hold(10, 0)", Check.BEYOND, x -> x.hold(10, 0));
        add("as(1, 7)", Check.BEYOND, x -> x.as(1, 7));
        add("as(0, 0)", Check.MISSING, x -> x.as(0, 0));
        add("as(1, 2)", Check.KIND, x -> x.as(1, 2));
        add("undo()", Check.NONE, x -> x.undo());
        add("count(8)", Check.BEYOND, x -> x.count(8));
        add("status(7)", Check.BEYOND, x -> x.status(7));
    }

    private void sheetActs() {
        add("fits(4, 0)", Check.BEYOND, x -> x.fits(4, 0));
        add("fits(2, 8)", Check.MISSING, x -> x.fits(2, 8));
        add("fits(0, 8)", Check.BEYOND, x -> x.fits(0, 8));
        add("kinds(4, 0)", Check.BEYOND, x -> x.kinds(4, 0));
        add("kinds(2, 8)", Check.MISSING, x -> x.kinds(2, 8));
        add("kinds(0, 8)", Check.BEYOND, x -> x.kinds(0, 8));
        add("sheet(4, 8, -1)", Check.BEYOND, x -> x.sheet(4, 8, -1));
        add("sheet(0, 9, -1)", Check.BEYOND, x -> x.sheet(0, 9, -1));
        add("sheet(0, 0, -1)", Check.SIZE, x -> x.sheet(0, 0, -1));
        add("sheet(0, 0, 41)", Check.BEYOND, x -> x.sheet(0, 0, 41));
        add("write(4, 0, 0)", Check.BEYOND, x -> x.write(4, 0, 0));
        add("write(2, 99, 0)", Check.MISSING, x -> x.write(2, 99, 0));
        add("write(0, 3, 0)", Check.BEYOND, x -> x.write(0, 3, 0));
        add("copy(0, 0, 4, 0, 1)", Check.BEYOND, x -> x.copy(0, 0, 4, 0, 1));
        add("copy(0, -1, 2, 0, 1)", Check.MISSING, x -> x.copy(0, -1, 2, 0, 1));
        add("copy(0, -1, 1, 0, 1)", Check.KIND, x -> x.copy(0, -1, 1, 0, 1));
        add("copy(0, 0, 0, 1, 3)", Check.BEYOND, x -> x.copy(0, 0, 0, 1, 3));
        add("load(4)", Check.BEYOND, x -> x.load(4));
        add("load(2)", Check.MISSING, x -> x.load(2));
        add("judge(-1)", Check.BEYOND, x -> x.judge(-1));
        add("judge(2)", Check.MISSING, x -> x.judge(2));
    }

    private void check() {
        WordSupper x = full();
        String before = Check.seen(x);
        int judged = x.judge(0);
        int[] counted = new int[7];
        for (int which = 0; which < 7; which++) {
            counted[which] = x.status(which);
        }
        int all = x.status(-1);
        for (String call : acts.keySet()) {
            int finding = due.get(call);
            Check.due("44: finding of " + call, acts.get(call).applyAsLong(x), finding);
            counted[Check.BEYOND - finding]++;
            all++;
            Check.due("44: all behind " + call, x.status(-1), all);
            Check.due("44: of its kind behind " + call, x.status(Check.BEYOND - finding), counted[Check.BEYOND - finding]);
        }
        Check.due("44: findings change nothing", Check.seen(x).equals(before) ? 1 : 0, 1);
        Check.due("44: nor on sheets", x.judge(0), judged);
    }
}
