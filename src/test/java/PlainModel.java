import java.util.ArrayList;
import java.util.HashMap;
import java.util.List;
import java.util.Map;
import java.util.TreeMap;
import java.util.TreeSet;

/** The document again, with sets and lists, as something to compare long runs with. */
final class PlainModel {

    private static final class Sheet {
        int number;
        int text;
        int batch;
        int copy;
        int source = -1;
        int machine;
        int with = -1;
        int seized = 0;
        int hours = 0;
        List<Integer> readings = new ArrayList<>();
        TreeSet<Integer> everWith = new TreeSet<>();
    }

    private static final class Person {
        int number;
        boolean free = true;
        boolean informs = false;
        boolean lives = true;
        boolean consents = false;
        int strong = 3;
        int nightsSinceArrest = 0;
        TreeSet<Integer> friends = new TreeSet<>();
    }

    private static final class Machine {
        int with = -1;
        int noted = -1;
        boolean seen = false;
        boolean gone = false;
    }

    private static final class Line {
        final int[] parts;

        Line(int night, int how, int by, int whom) {
            parts = new int[] {night, how, by, whom};
        }
    }

    private final int[][] texts = new int[3][12];
    private final List<Sheet> sheets = new ArrayList<>();
    private final List<Person> people = new ArrayList<>();
    private final List<Machine> machines = new ArrayList<>();
    private final List<Line> lines = new ArrayList<>();
    private final Map<Integer, int[]> slips = new HashMap<>();
    private int nextBatch = 0;
    private int night = 0;
    private boolean opened = false;

    PlainModel() {
        for (int place = 0; place < 36; place++) {
            texts[place / 12][place % 12] = place % 12;
        }
        for (int number = 0; number < 10; number++) {
            Person person = new Person();
            person.number = number;
            people.add(person);
        }
        for (int number = 0; number < 4; number++) {
            machines.add(new Machine());
        }
    }

    int sheetCount() {
        return sheets.size();
    }

    private static void within(int value, int end) {
        if (value < 0 || value >= end) {
            throw new IndexOutOfBoundsException();
        }
    }

    private static void between(int value, int low, int high) {
        if (value < low || value > high) {
            throw new IllegalArgumentException();
        }
    }

    private static void refuseIf(boolean bad) {
        if (bad) {
            throw new IllegalStateException();
        }
    }

    private boolean free(int person) {
        return people.get(person).free;
    }

    int word(int text, int place, int word) {
        within(text, 3);
        within(place, 12);
        between(word, 0, 99);
        for (Sheet sheet : sheets) {
            refuseIf(sheet.text == text);
        }
        int before = texts[text][place];
        texts[text][place] = word;
        return before;
    }

    int write(int text, int person, int machine) {
        within(text, 3);
        within(person, 10);
        within(machine, 4);
        refuseIf(!free(person));
        refuseIf(machines.get(machine).with != person);
        refuseIf(sheets.size() == 40);
        Sheet sheet = new Sheet();
        sheet.text = text;
        sheet.batch = nextBatch++;
        sheet.machine = machine;
        for (int word : texts[text]) {
            sheet.readings.add(word);
        }
        return appear(sheet, person);
    }

    private int appear(Sheet sheet, int person) {
        sheet.number = sheets.size();
        sheets.add(sheet);
        come(sheet, person);
        return sheet.number;
    }

    private void come(Sheet sheet, int person) {
        sheet.with = person;
        sheet.hours = 0;
        sheet.everWith.add(person);
        if (people.get(person).informs) {
            seen(sheet.machine);
        }
    }

    private void seen(int machine) {
        machines.get(machine).seen = true;
        match(machine);
    }

    private void match(int machine) {
        Machine one = machines.get(machine);
        if (one.seen && one.noted >= 0) {
            becomesKnown(one.noted, 1, -1);
        }
    }

    private void becomesKnown(int person, int how, int by) {
        if (!known().contains(person)) {
            lines.add(new Line(night, how, by, person));
        }
    }

    private TreeSet<Integer> known() {
        TreeSet<Integer> known = new TreeSet<>();
        for (Line line : lines) {
            if (line.parts[1] <= 2) {
                known.add(line.parts[3]);
            }
        }
        return known;
    }

    int slip(int place, int kind, int word) {
        within(place, 12);
        between(kind, 0, 2);
        between(word, 0, kind == 1 ? 0 : 99);
        slips.put(place, new int[] {kind, word});
        return slips.size();
    }

    int type(int sheet, int machine, int copies) {
        within(sheet, sheets.size());
        within(machine, 4);
        between(copies, 1, 6);
        Sheet source = sheets.get(sheet);
        refuseIf(source.with < 0);
        refuseIf(!free(source.with));
        refuseIf(machines.get(machine).with != source.with);
        refuseIf(sheets.size() + copies > 40);
        int first = sheets.size();
        for (int copy = 0; copy < copies; copy++) {
            Sheet made = new Sheet();
            made.text = source.text;
            made.batch = nextBatch;
            made.copy = copy;
            made.source = sheet;
            made.machine = machine;
            for (int place = 0; place < 12; place++) {
                made.readings.add(typed(source.readings.get(place), place, copy));
            }
            appear(made, source.with);
        }
        nextBatch++;
        slips.clear();
        return first;
    }

    private int typed(int reading, int place, int copy) {
        int[] slip = slips.get(place);
        int typed = reading;
        if (slip != null) {
            if (slip[0] == 1) {
                typed = -2;
            } else if (slip[0] == 0 && reading >= 0 || slip[0] == 2 && reading == -1) {
                typed = slip[1];
            }
        }
        if (typed >= 0 && place % 6 < copy - 2) {
            typed = -1;
        }
        return typed;
    }

    int reading(int sheet, int place) {
        within(sheet, sheets.size());
        within(place, 12);
        return sheets.get(sheet).readings.get(place);
    }

    int unlikely(int sheet, int other) {
        within(sheet, sheets.size());
        within(other, sheets.size());
        if (sheets.get(sheet).text != sheets.get(other).text) {
            throw new IllegalArgumentException();
        }
        int sum = 0;
        for (int place = 0; place < 12; place++) {
            int mine = sheets.get(sheet).readings.get(place);
            int its = sheets.get(other).readings.get(place);
            if (mine >= 0 && its >= 0 && mine != its) {
                sum += 2;
            }
            if (its >= 0 && mine == -2) {
                sum += 1;
            }
            if (its == -1 && mine != -1) {
                sum += 1;
            }
            if (its == -2 && mine >= 0) {
                sum += 6;
            }
        }
        return sum;
    }

    int likeliest(int sheet) {
        within(sheet, sheets.size());
        TreeMap<Integer, Integer> lowest = new TreeMap<>();
        for (Sheet other : sheets) {
            if (other.text == sheets.get(sheet).text && other.batch < sheets.get(sheet).batch) {
                lowest.putIfAbsent(unlikely(sheet, other.number), other.number);
            }
        }
        return lowest.isEmpty() ? -1 : lowest.firstEntry().getValue();
    }

    int restored(int text, int place) {
        within(text, 3);
        within(place, 12);
        TreeMap<Integer, Sheet> voters = new TreeMap<>();
        for (Sheet sheet : sheets) {
            if (sheet.text == text && sheet.with >= 0 && sheet.readings.get(place) >= 0) {
                Sheet other = voters.get(sheet.batch);
                if (other == null || other.copy > sheet.copy) {
                    voters.put(sheet.batch, sheet);
                }
            }
        }
        int[] votes = new int[100];
        for (Sheet voter : voters.values()) {
            votes[voter.readings.get(place)]++;
        }
        int best = -1;
        for (Sheet voter : voters.descendingMap().values()) {
            int word = voter.readings.get(place);
            if (best < 0 || votes[word] >= votes[best]) {
                best = word;
            }
        }
        return best;
    }

    int sheetIs(int sheet, int what) {
        within(sheet, sheets.size());
        between(what, 0, 7);
        Sheet it = sheets.get(sheet);
        return new int[] {it.text, it.batch, it.copy, it.source, it.machine, it.with, it.seized,
            it.hours}[what];
    }

    boolean meet(int person, int other) {
        within(person, 10);
        within(other, 10);
        if (person == other) {
            throw new IllegalArgumentException();
        }
        refuseIf(!free(person) || !free(other));
        boolean anew = people.get(person).friends.add(other);
        people.get(other).friends.add(person);
        if (people.get(person).informs) {
            becomesKnown(other, 0, person);
        }
        if (people.get(other).informs) {
            becomesKnown(person, 0, other);
        }
        return anew;
    }

    int give(int sheet, int person) {
        within(sheet, sheets.size());
        within(person, 10);
        int before = sheets.get(sheet).with;
        refuseIf(before < 0);
        refuseIf(!free(before) || !free(person));
        refuseIf(!people.get(before).friends.contains(person));
        come(sheets.get(sheet), person);
        return before;
    }

    int hide(int sheet, int hours) {
        within(sheet, sheets.size());
        between(hours, 0, 9);
        Sheet it = sheets.get(sheet);
        refuseIf(it.with < 0);
        refuseIf(!free(it.with));
        int before = it.hours;
        it.hours = hours;
        return before;
    }

    void burn(int sheet) {
        within(sheet, sheets.size());
        Sheet it = sheets.get(sheet);
        refuseIf(it.with < 0);
        refuseIf(!free(it.with));
        it.with = -1;
    }

    private static int setOf(Iterable<Integer> numbers) {
        int set = 0;
        for (int number : numbers) {
            set |= 1 << number;
        }
        return set;
    }

    int whoHad(int text, int place, int reading) {
        within(text, 3);
        within(place, 12);
        between(reading, -2, 99);
        TreeSet<Integer> had = new TreeSet<>();
        for (Sheet sheet : sheets) {
            if (sheet.text == text && sheet.readings.get(place) == reading) {
                had.addAll(sheet.everWith);
            }
        }
        return setOf(had);
    }

    int knows(int person) {
        within(person, 10);
        return setOf(people.get(person).friends);
    }

    int lend(int machine, int person) {
        within(machine, 4);
        within(person, 10);
        Machine it = machines.get(machine);
        refuseIf(it.gone);
        refuseIf(!free(person));
        refuseIf(it.with >= 0 && !free(it.with));
        int before = it.with;
        it.with = person;
        return before;
    }

    int file(int machine) {
        within(machine, 4);
        Machine it = machines.get(machine);
        refuseIf(it.with < 0);
        int before = it.noted;
        it.noted = it.with;
        match(machine);
        return before;
    }

    int informer(int person) {
        within(person, 10);
        Person it = people.get(person);
        refuseIf(it.informs || !it.free);
        int before = known().size();
        it.informs = true;
        for (int friend : it.friends) {
            becomesKnown(friend, 0, person);
        }
        for (Sheet sheet : sheets) {
            if (sheet.with == person) {
                seen(sheet.machine);
            }
        }
        return known().size() - before;
    }

    int strong(int person, int nights) {
        within(person, 10);
        between(nights, 0, 9);
        int before = people.get(person).strong;
        people.get(person).strong = nights;
        return before;
    }

    private int seize(int person, int hours) {
        int count = 0;
        for (Sheet sheet : sheets) {
            if (sheet.with == person && sheet.hours <= hours) {
                count++;
                sheet.with = -1;
                sheet.seized = 1;
                seen(sheet.machine);
            }
        }
        return count;
    }

    int arrest(int person) {
        within(person, 10);
        refuseIf(!free(person) || !known().contains(person));
        people.get(person).free = false;
        people.get(person).nightsSinceArrest = 0;
        lines.add(new Line(night, 3, -1, person));
        return seize(person, 0);
    }

    int search(int person, int hours) {
        within(person, 10);
        between(hours, 0, 9);
        refuseIf(!known().contains(person));
        lines.add(new Line(night, 4, -1, person));
        int count = seize(person, hours);
        for (int machine = 0; machine < 4 && hours >= 5; machine++) {
            if (machines.get(machine).with == person) {
                file(machine);
                seen(machine);
                machines.get(machine).with = -1;
                machines.get(machine).gone = true;
            }
        }
        return count;
    }

    int amnesty() {
        int count = 0;
        for (Person person : people) {
            count += person.free ? 0 : 1;
            person.free = true;
        }
        return count;
    }

    boolean isKnown(int person) {
        within(person, 10);
        return known().contains(person);
    }

    boolean isKnownAnew(int person) {
        within(person, 10);
        return known().contains(person);
    }

    int risk(int person, int nights) {
        within(person, 10);
        between(nights, 0, 30);
        TreeSet<Integer> left = new TreeSet<>(people.get(person).friends);
        left.removeAll(known());
        TreeSet<Integer> open = new TreeSet<>();
        for (int passed = 1; passed <= nights; passed++) {
            if (passed > people.get(person).strong && !left.isEmpty()) {
                open.add(left.pollFirst());
            }
        }
        return setOf(open);
    }

    int pass(int nights) {
        between(nights, 1, 30);
        refuseIf(night + nights > 999);
        for (int passed = 0; passed < nights; passed++) {
            night++;
            for (Person person : people) {
                if (!person.free) {
                    person.nightsSinceArrest++;
                    TreeSet<Integer> left = new TreeSet<>(person.friends);
                    left.removeAll(known());
                    if (person.nightsSinceArrest > person.strong && !left.isEmpty()) {
                        becomesKnown(left.first(), 2, person.number);
                    }
                }
            }
        }
        return night;
    }

    void life(int person, boolean lives, boolean consents) {
        within(person, 10);
        people.get(person).lives = lives;
        people.get(person).consents = consents;
    }

    int open() {
        opened = true;
        return lines.size();
    }

    int line(int line, int what) {
        within(line, lines.size());
        between(what, 0, 3);
        refuseIf(!opened);
        int part = lines.get(line).parts[what];
        if (what >= 2 && part >= 0 && people.get(part).lives && !people.get(part).consents) {
            return -2;
        }
        return part;
    }
}
