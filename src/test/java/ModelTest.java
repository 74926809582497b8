/** Tables by draws of a told seed, and what will be of these and what to do, held against the model. */
final class ModelTest {
    private long state;
    private WordSupper x;
    private Model model;

    private ModelTest(int run) {
        state = run;
    }

    static void run() {
        for (int run = 1; run <= 250; run++) {
            ModelTest test = new ModelTest(run);
            test.setTable();
            for (int step = 0; step < 5; step++) {
                test.holdAgainst();
                int days = 1 + test.draw(9);
                test.model = test.model.behind(days);
                Check.due("model: go " + days, test.x.go(days), test.model.left());
            }
        }
    }

    private int draw(int below) {
        state = state * 6364136223846793005L + 1442695040888963407L;
        return (int) ((state >>> 33) % below);
    }

    private void setTable() {
        x = new WordSupper();
        model = new Model();
        int people = 1 + draw(8);
        int most = draw(4) == 0 ? 999 : draw(3) == 0 ? 8 : 30;
        for (int i = 0; i < people; i++) {
            int kind = draw(7);
            x.speaker(kind);
            model.people.add(new Model.Person(Model.kind(kind)));
            int fat = draw(100);
            x.change(i, 2, fat);
            model.people.get(i).fat = fat;
            for (int taste = 0; taste < 6; taste++) {
                int words = draw(3) == 0 ? draw(most + 1) : 0;
                x.serve(i, taste, words);
                model.people.get(i).plate[taste] = words;
            }
        }
        for (int i = 0; i < people; i++) {
            int loves = draw(people);
            if (loves != i && draw(3) != 0) {
                x.change(i, 1, loves);
                model.people.get(i).loves = loves;
            }
        }
        for (int taste = 0; taste < 6; taste++) {
            int words = draw(2) == 0 ? draw(21) : 0;
            x.list(taste, words);
            model.list[taste] = words;
        }
        int vinegar = draw(10);
        x.vinegar(vinegar);
        model.vinegar = vinegar;
    }

    private void holdAgainst() {
        int speaker = draw(model.people.size());
        state(speaker);
        ahead(speaker);
        firstDays(speaker);
        counsel(speaker);
        silence(speaker);
        swap();
        told(speaker);
    }

    private void state(int speaker) {
        Model.Person person = model.people.get(speaker);
        int[] of = {-1, person.loves, person.fat, person.ate, person.kind.appetite(person, model.vinegar), person.left()};
        for (int what = 1; what < of.length; what++) {
            Check.due("model: of " + what, x.of(speaker, what), of[what]);
        }
        for (int taste = 0; taste < 6; taste++) {
            Check.due("model: plate", x.plate(speaker, taste), person.plate[taste]);
            Check.due("model: chews", x.chews(speaker, taste), person.kind.chews(taste, model.vinegar));
            Check.due("model: talks", x.talks(speaker, taste), person.kind.talks(taste, model.day));
        }
        Check.due("model: day", x.now(0), model.day);
    }

    private void ahead(int speaker) {
        int n = draw(101);
        Model.Person then = model.behind(n).people.get(speaker);
        Check.due("model: fat ahead", x.ahead(speaker, 2, n), then.fat);
        Check.due("model: ate ahead", x.ahead(speaker, 3, n), then.ate);
        Check.due("model: left ahead", x.ahead(speaker, 5, n), then.left());
        for (int taste = 0; taste < 6; taste++) {
            Check.due("model: served", x.served(speaker, taste, n), then.plate[taste]);
        }
    }

    private void firstDays(int speaker) {
        int v = draw(2) == 0 ? draw(60) : draw(5001);
        int clean = Check.NONE;
        int when = Check.NONE;
        int thin = Check.NONE;
        Model then = model;
        for (int n = 0; n <= 100; n++) {
            Model.Person person = then.people.get(speaker);
            clean = clean == Check.NONE && person.left() == 0 ? n : clean;
            when = when == Check.NONE && person.left() >= v ? n : when;
            thin = thin == Check.NONE && person.fat == 0 ? n : thin;
            then = then.behind(1);
        }
        Check.due("model: clean", x.clean(speaker), clean);
        Check.due("model: when " + v, x.when(speaker, v), when);
        Check.due("model: thin", x.thin(speaker), thin);
    }

    private void counsel(int speaker) {
        int n = draw(3) == 0 ? draw(41) : draw(6);
        int people = model.people.size();
        int[] love = {0, Integer.MAX_VALUE};
        for (int loved = 0; loved < people; loved++) {
            if (loved != speaker) {
                Model then = model.twin();
                then.people.get(speaker).loves = loved;
                best(love, loved, then.behind(n).left());
            }
        }
        Model alone = model.twin();
        alone.people.get(speaker).loves = -1;
        best(love, -1, alone.behind(n).left());
        Check.due("model: love", x.love(speaker, n), love[0]);
        int[] kind = {0, Integer.MAX_VALUE};
        for (int number = 0; number < 7; number++) {
            Model then = model.twin();
            then.people.get(speaker).kind = Model.kind(number);
            best(kind, number, then.behind(n).people.get(speaker).left());
        }
        Check.due("model: kindFor", x.kindFor(speaker, n), kind[0]);
        int vinegar = Check.NONE;
        for (int v = 0; v <= 9; v++) {
            Model then = model.twin();
            then.vinegar = v;
            vinegar = then.behind(n).people.get(speaker).left() == 0 ? v : vinegar;
        }
        Check.due("model: vinegarFor", x.vinegarFor(speaker, n), vinegar);
        int[] unsay = {0, Integer.MAX_VALUE};
        for (int taste = 0; taste < 6; taste++) {
            Model then = model.twin();
            then.list[taste] = 0;
            best(unsay, taste, then.behind(n).left());
        }
        Check.due("model: unsay", x.unsay(n), unsay[0]);
    }

    private static void best(int[] best, int number, int left) {
        if (left < best[1]) {
            best[0] = number;
            best[1] = left;
        }
    }

    private void silence(int speaker) {
        int n = draw(5);
        int least = Check.NONE;
        for (int set = (1 << model.people.size()) - 1; set >= 0; set--) {
            boolean isFewer = least == Check.NONE || Integer.bitCount(set) <= Integer.bitCount(least);
            if (isFewer && model.behind(n, set).people.get(speaker).left() == 0) {
                least = set;
            }
        }
        Check.due("model: silence", x.silence(speaker, n), least);
    }

    private void swap() {
        int n = draw(21);
        int[] swap = {Check.NONE, Integer.MAX_VALUE};
        for (int one = 0; one < model.people.size(); one++) {
            for (int other = one + 1; other < model.people.size(); other++) {
                Model then = model.twin();
                int[] plate = then.people.get(one).plate;
                then.people.get(one).plate = then.people.get(other).plate;
                then.people.get(other).plate = plate;
                best(swap, 8 * one + other, then.behind(n).left());
            }
        }
        Check.due("model: swapFor", x.swapFor(n), swap[0]);
    }

    /** The sheet tells what one taste more, or one kind, makes of the plate; some numbers are any. */
    private void told(int speaker) {
        int days = draw(8);
        boolean byKind = draw(2) == 0;
        int choice = draw(byKind ? 7 : 6);
        int[] numbers = new int[days + 1];
        for (int i = 0; i <= days; i++) {
            numbers[i] = draw(3) == 0 ? -1 : chosen(byKind, speaker, choice).behind(i).people.get(speaker).left();
        }
        Check.lay(x, 1, numbers);
        int set = 0;
        for (int other = 0; other < (byKind ? 7 : 6); other++) {
            boolean isSo = true;
            for (int i = 0; i <= days; i++) {
                int left = chosen(byKind, speaker, other).behind(i).people.get(speaker).left();
                isSo &= numbers[i] == -1 || numbers[i] == left;
            }
            set |= isSo ? 1 << other : 0;
        }
        Check.due(byKind ? "model: kinds" : "model: fits", byKind ? x.kinds(1, speaker) : x.fits(1, speaker), set);
    }

    private Model chosen(boolean byKind, int speaker, int choice) {
        Model then = model.twin();
        Model.Person person = then.people.get(speaker);
        if (byKind) {
            person.kind = Model.kind(choice);
        } else {
            person.plate[choice] = Math.min(999, person.plate[choice] + 1);
        }
        return then;
    }
}
