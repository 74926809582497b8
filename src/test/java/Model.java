import java.util.ArrayList;
import java.util.List;

/**
 * The document's terms told once more, as a tree of kinds and with no thought of speed,
 * so that long runs of the class can be held against something that was written apart from it.
 */
final class Model {
    int day = 0;
    int vinegar = 1;
    int[] list = new int[6];
    List<Person> people = new ArrayList<>();

    static final class Person {
        Kind kind;
        int loves = -1;
        int fat = 50;
        int ate = 0;
        int[] plate = new int[6];

        Person(Kind kind) {
            this.kind = kind;
        }

        int left() {
            int sum = 0;
            for (int words : plate) {
                sum += words;
            }
            return sum;
        }

        Person twin() {
            Person twin = new Person(kind);
            twin.loves = loves;
            twin.fat = fat;
            twin.ate = ate;
            twin.plate = plate.clone();
            return twin;
        }
    }

    Model twin() {
        Model twin = new Model();
        twin.day = day;
        twin.vinegar = vinegar;
        twin.list = list.clone();
        for (Person person : people) {
            twin.people.add(person.twin());
        }
        return twin;
    }

    Model behind(int days) {
        return behind(days, 0);
    }

    Model behind(int days, int silent) {
        Model then = twin();
        for (int i = 0; i < days; i++) {
            then.pass(silent);
        }
        return then;
    }

    int left() {
        return people.stream().mapToInt(Person::left).sum();
    }

    private void pass(int silent) {
        for (int i = 0; i < people.size(); i++) {
            Person person = people.get(i);
            for (int taste = 0; taste < 6 && (silent & 1 << i) == 0; taste++) {
                int said = person.kind.talks(taste, day) + (day % 8 == i ? list[taste] : 0);
                person.plate[taste] = Math.min(999, person.plate[taste] + said);
            }
        }
        for (Person person : people) {
            int[] bites = {person.kind.appetite(person, vinegar)};
            int words = eat(person, person.plate, bites);
            if (person.loves != -1) {
                words += eat(person, people.get(person.loves).plate, bites);
            }
            person.fat = Math.min(99, person.fat + words / 4);
            person.fat = Math.max(0, person.fat - 2);
            person.ate = Math.min(99999, person.ate + words);
        }
        day++;
    }

    /** Word by word. */
    private int eat(Person eater, int[] plate, int[] bites) {
        int words = 0;
        for (int taste = 0; taste < 6; taste++) {
            int takes = eater.kind.chews(taste, vinegar);
            while (takes >= 0 && plate[taste] > 0 && takes <= bites[0]) {
                plate[taste]--;
                bites[0] -= takes;
                words++;
            }
        }
        return words;
    }

    static Kind kind(int number) {
        switch (number) {
            case 0: return new Kind();
            case 1: return new Lawyer();
            case 2: return new Child();
            case 3: return new Saint();
            case 4: return new Reader();
            case 5: return new Cook();
            default: return new Liar();
        }
    }

    static class Kind {
        int chews(int taste, int vinegar) {
            return new int[] {1, 3 + vinegar, 5, 4, -1, 0}[taste];
        }

        int appetite(Person self, int vinegar) {
            return 12;
        }

        int talks(int taste, int day) {
            return taste == 0 ? 1 : 0;
        }
    }

    static class Lawyer extends Kind {
        @Override
        int chews(int taste, int vinegar) {
            return taste == 1 ? 1 : super.chews(taste, vinegar);
        }

        @Override
        int appetite(Person self, int vinegar) {
            return super.appetite(self, vinegar) - self.fat / 10;
        }

        @Override
        int talks(int taste, int day) {
            return taste == 1 ? 2 : super.talks(taste, day);
        }
    }

    static final class Liar extends Lawyer {
        @Override
        int chews(int taste, int vinegar) {
            return taste == 4 ? 9 : super.chews(taste, vinegar);
        }

        @Override
        int appetite(Person self, int vinegar) {
            return Math.max(0, super.appetite(self, vinegar) - 3);
        }

        @Override
        int talks(int taste, int day) {
            return taste == 4 && day % 2 == 0 ? 1 : super.talks(taste, day);
        }
    }

    static class Child extends Kind {
        @Override
        int chews(int taste, int vinegar) {
            return taste == 2 ? -1 : super.chews(taste, vinegar);
        }

        @Override
        int appetite(Person self, int vinegar) {
            return super.appetite(self, vinegar) / 2;
        }

        @Override
        int talks(int taste, int day) {
            return taste == 2 && day % 3 == 0 ? 1 : super.talks(taste, day);
        }
    }

    static class Saint extends Child {
        @Override
        int chews(int taste, int vinegar) {
            return taste == 2 ? 2 : super.chews(taste, vinegar);
        }

        @Override
        int appetite(Person self, int vinegar) {
            return super.appetite(self, vinegar) + (self.left() == 0 ? 20 : 0);
        }

        @Override
        int talks(int taste, int day) {
            return taste == 5 && day % 7 == 5 ? 1 : 0;
        }
    }

    static final class Reader extends Saint {
        @Override
        int chews(int taste, int vinegar) {
            int takes = super.chews(taste, vinegar);
            return takes < 0 ? takes : takes + 1;
        }

        @Override
        int appetite(Person self, int vinegar) {
            return super.appetite(self, vinegar) + 4;
        }

        @Override
        int talks(int taste, int day) {
            return taste == 3 ? 3 : 0;
        }
    }

    static final class Cook extends Kind {
        @Override
        int chews(int taste, int vinegar) {
            return super.chews(taste, 0);
        }

        @Override
        int appetite(Person self, int vinegar) {
            return super.appetite(self, vinegar) + vinegar;
        }

        @Override
        int talks(int taste, int day) {
            return 0;
        }
    }
}
