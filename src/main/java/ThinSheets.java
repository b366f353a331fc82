import java.util.Arrays;

/**
 * Forbidden books by typewriter and thin paper: sheets that are copied in batches, people who
 * know few others, machines, the police, and an archive that covers the names of those who live.
 */
public final class ThinSheets {

    /** There is none. */
    public static final int NONE = -1;
    /** Readings that are no words. */
    public static final int BLANK = -1, OMITTED = -2;
    /** Slips. */
    public static final int WORD = 0, LEAP = 1, GUESS = 2;
    /** Lines. */
    public static final int INFORMED = 0, MACHINE = 1, OPENED = 2, ARRESTED = 3, SEARCHED = 4;
    /** A name that is not told. */
    public static final int COVERED = -2;

    private static final int TEXTS = 3;
    private static final int PLACES = 12;
    private static final int WORDS = 100;
    private static final int SHEETS = 40;
    private static final int COPIES = 6;
    private static final int PEOPLE = 10;
    private static final int MACHINES = 4;
    private static final int LAST_NIGHT = 999;
    private static final int MOST_HOURS = 9;
    private static final int MOST_STRONG = 9;
    private static final int STRONG_AT_FIRST = 3;
    private static final int MOST_NIGHTS = 30;
    private static final int HOURS_FOR_MACHINES = 5;
    /** Copies up to this one are black everywhere. */
    private static final int BLACK_COPY = 2;
    private static final int PALE_EVERY = 6;
    /** A line for each who becomes known, and one for each of the 512 calls that are promised. */
    private static final int LINES = PEOPLE + 512;

    private final int[][] words = new int[TEXTS][PLACES];
    private final Slips slips = new Slips();
    private final Sheets sheets = new Sheets();
    private final People people = new People();
    private final Machines machines = new Machines();
    private final Archive archive = new Archive();
    /** The word that each batch is for, or NONE; a row that each restoring uses again. */
    private final int[] votes = new int[SHEETS];
    private int night = 0;

    /** No sheets. */
    public ThinSheets() {
        for (int text = 0; text < TEXTS; text++) {
            for (int place = 0; place < PLACES; place++) {
                words[text][place] = place;
            }
        }
    }

    // ---- texts and sheets

    /** Tells a word of a text; returns the word before. */
    public int word(int text, int place, int word)
            throws IndexOutOfBoundsException, IllegalArgumentException, IllegalStateException {
        needIndex(text, TEXTS);
        needIndex(place, PLACES);
        needArgument(word >= 0 && word < WORDS);
        needState(!sheets.anyOf(text));
        int before = words[text][place];
        words[text][place] = word;
        return before;
    }

    /** Lets somebody write a sheet of all words of a text; returns its number. */
    public int write(int text, int person, int machine)
            throws IndexOutOfBoundsException, IllegalStateException {
        needIndex(text, TEXTS);
        needIndex(person, PEOPLE);
        needIndex(machine, MACHINES);
        needState(canType(person, machine) && sheets.count < SHEETS);
        sheets.batches++;
        int made = sheets.add(text, 0, NONE, machine);
        for (int place = 0; place < PLACES; place++) {
            sheets.readings[made][place] = words[text][place];
        }
        bringTo(made, person);
        return made;
    }

    /** Tells a slip for the next batch; returns how many places have slips then. */
    public int slip(int place, int kind, int word)
            throws IndexOutOfBoundsException, IllegalArgumentException {
        needIndex(place, PLACES);
        needArgument(kind >= WORD && kind <= GUESS);
        needArgument(word >= 0 && word < WORDS && (kind != LEAP || word == 0));
        slips.kinds[place] = kind;
        slips.words[place] = word;
        return slips.countPlaces();
    }

    /** Lets the one with whom a sheet is type it; returns the number of the copy 0. */
    public int type(int sheet, int machine, int copies)
            throws IndexOutOfBoundsException, IllegalArgumentException, IllegalStateException {
        needIndex(sheet, sheets.count);
        needIndex(machine, MACHINES);
        needArgument(copies >= 1 && copies <= COPIES);
        int person = sheets.holders[sheet];
        needState(canType(person, machine) && sheets.count + copies <= SHEETS);
        int first = sheets.count;
        sheets.batches++;
        for (int copy = 0; copy < copies; copy++) {
            bringTo(makeCopy(sheet, copy, machine), person);
        }
        slips.forget();
        return first;
    }

    /** Returns the reading of a sheet, whatever became of it. */
    public int reading(int sheet, int place) throws IndexOutOfBoundsException {
        needIndex(sheet, sheets.count);
        needIndex(place, PLACES);
        return sheets.readings[sheet][place];
    }

    /** Returns how unlikely it is that a sheet was copied of another one. */
    public int unlikely(int sheet, int other)
            throws IndexOutOfBoundsException, IllegalArgumentException {
        needIndex(sheet, sheets.count);
        needIndex(other, sheets.count);
        needArgument(sheets.texts[sheet] == sheets.texts[other]);
        return sheets.distance(sheet, other);
    }

    /** Returns the likeliest parent of a sheet; NONE without. */
    public int likeliest(int sheet) throws IndexOutOfBoundsException {
        needIndex(sheet, sheets.count);
        int parent = NONE;
        int least = 0;
        for (int other = 0; other < sheets.count; other++) {
            if (sheets.couldBeParent(other, sheet)) {
                int distance = sheets.distance(sheet, other);
                if (parent == NONE || distance < least) {
                    parent = other;
                    least = distance;
                }
            }
        }
        return parent;
    }

    /** Returns a word that is restored; NONE without votes. */
    public int restored(int text, int place) throws IndexOutOfBoundsException {
        needIndex(text, TEXTS);
        needIndex(place, PLACES);
        castVotes(text, place);
        int best = NONE;
        int most = 0;
        for (int batch = 0; batch < sheets.batches; batch++) {
            int number = countVotes(votes[batch]);
            if (number > most) {
                best = votes[batch];
                most = number;
            }
        }
        return best;
    }

    /** Tells of a sheet: 0 text, 1 batch, 2 copy, 3 source, 4 machine, 5 holder, 6 seized, 7 hours. */
    public int sheetIs(int sheet, int what)
            throws IndexOutOfBoundsException, IllegalArgumentException {
        needIndex(sheet, sheets.count);
        needArgument(what >= 0 && what <= 7);
        switch (what) {
            case 0:
                return sheets.texts[sheet];
            case 1:
                return sheets.batchOf[sheet];
            case 2:
                return sheets.copies[sheet];
            case 3:
                return sheets.sources[sheet];
            case 4:
                return sheets.machines[sheet];
            case 5:
                return sheets.holders[sheet];
            case 6:
                return sheets.seized[sheet] ? 1 : 0;
            default:
                return sheets.hours[sheet];
        }
    }

    // ---- people

    /** Lets two meet; returns whether they did not know each other. */
    public boolean meet(int person, int other)
            throws IndexOutOfBoundsException, IllegalArgumentException, IllegalStateException {
        needIndex(person, PEOPLE);
        needIndex(other, PEOPLE);
        needArgument(person != other);
        needState(people.isFree(person) && people.isFree(other));
        boolean anew = !people.areAcquainted(person, other);
        people.acquaint(person, other);
        tellOf(person, other);
        tellOf(other, person);
        return anew;
    }

    /** Gives a sheet; returns with whom it was. */
    public int give(int sheet, int person) throws IndexOutOfBoundsException, IllegalStateException {
        needIndex(sheet, sheets.count);
        needIndex(person, PEOPLE);
        int before = sheets.holders[sheet];
        needState(people.isFree(before) && people.isFree(person)
                && people.areAcquainted(before, person));
        bringTo(sheet, person);
        return before;
    }

    /** Hides a sheet; returns how many hours it took to be found. */
    public int hide(int sheet, int hours)
            throws IndexOutOfBoundsException, IllegalArgumentException, IllegalStateException {
        needIndex(sheet, sheets.count);
        needArgument(hours >= 0 && hours <= MOST_HOURS);
        needState(people.isFree(sheets.holders[sheet]));
        int before = sheets.hours[sheet];
        sheets.hours[sheet] = hours;
        return before;
    }

    /** Burns a sheet. */
    public void burn(int sheet) throws IndexOutOfBoundsException, IllegalStateException {
        needIndex(sheet, sheets.count);
        needState(people.isFree(sheets.holders[sheet]));
        sheets.holders[sheet] = NONE;
    }

    /** Returns who ever had a sheet of a text with some reading at a place, a bit for each one. */
    public int whoHad(int text, int place, int reading)
            throws IndexOutOfBoundsException, IllegalArgumentException {
        needIndex(text, TEXTS);
        needIndex(place, PLACES);
        needArgument(reading >= OMITTED && reading < WORDS);
        int set = 0;
        for (int sheet = 0; sheet < sheets.count; sheet++) {
            if (sheets.texts[sheet] == text && sheets.readings[sheet][place] == reading) {
                set |= sheets.everHad[sheet];
            }
        }
        return set;
    }

    /** Returns whom somebody knows, a bit for each one. */
    public int knows(int person) throws IndexOutOfBoundsException {
        needIndex(person, PEOPLE);
        return people.acquaintances[person];
    }

    /** Lends a machine; returns with whom it was, NONE for nobody. */
    public int lend(int machine, int person)
            throws IndexOutOfBoundsException, IllegalStateException {
        needIndex(machine, MACHINES);
        needIndex(person, PEOPLE);
        int before = machines.holders[machine];
        needState(!machines.seized[machine] && people.isFree(person)
                && (before == NONE || people.isFree(before)));
        machines.holders[machine] = person;
        return before;
    }

    // ---- police

    /** Files a machine; returns with whom it was noted, NONE without. */
    public int file(int machine) throws IndexOutOfBoundsException, IllegalStateException {
        needIndex(machine, MACHINES);
        needState(machines.holders[machine] != NONE);
        int before = machines.noted[machine];
        machines.noted[machine] = machines.holders[machine];
        compareLetters(machine);
        return before;
    }

    /** Makes somebody an informer; returns how many become known by that. */
    public int informer(int person) throws IndexOutOfBoundsException, IllegalStateException {
        needIndex(person, PEOPLE);
        needState(!people.isInformer(person) && people.isFree(person));
        int before = Integer.bitCount(people.known);
        people.informers |= bit(person);
        for (int other = 0; other < PEOPLE; other++) {
            if (people.areAcquainted(person, other)) {
                tellOf(person, other);
            }
        }
        for (int sheet = 0; sheet < sheets.count; sheet++) {
            if (sheets.holders[sheet] == person) {
                see(sheet);
            }
        }
        return Integer.bitCount(people.known) - before;
    }

    /** Tells how many nights somebody is strong; returns how many before. */
    public int strong(int person, int nights)
            throws IndexOutOfBoundsException, IllegalArgumentException {
        needIndex(person, PEOPLE);
        needArgument(nights >= 0 && nights <= MOST_STRONG);
        int before = people.strength[person];
        people.strength[person] = nights;
        return before;
    }

    /** Arrests somebody; returns how many sheets are seized. */
    public int arrest(int person) throws IndexOutOfBoundsException, IllegalStateException {
        needIndex(person, PEOPLE);
        needState(people.isFree(person) && people.isListed(person));
        people.arrested |= bit(person);
        people.arrestNights[person] = night;
        archive.add(night, ARRESTED, NONE, person);
        return seizeSheets(person, 0);
    }

    /** Searches; returns how many sheets are seized. */
    public int search(int person, int hours)
            throws IndexOutOfBoundsException, IllegalArgumentException, IllegalStateException {
        needIndex(person, PEOPLE);
        needArgument(hours >= 0 && hours <= MOST_HOURS);
        needState(people.isListed(person));
        archive.add(night, SEARCHED, NONE, person);
        int seized = seizeSheets(person, hours);
        if (hours >= HOURS_FOR_MACHINES) {
            seizeMachines(person);
        }
        return seized;
    }

    /** Frees all who are arrested; returns how many. */
    public int amnesty() {
        int freed = Integer.bitCount(people.arrested);
        people.arrested = 0;
        return freed;
    }

    /** Tells whether the police know somebody. */
    public boolean isKnown(int person) throws IndexOutOfBoundsException {
        needIndex(person, PEOPLE);
        return people.isListed(person);
    }

    /** Tells the same, found by the lines. */
    public boolean isKnownAnew(int person) throws IndexOutOfBoundsException {
        needIndex(person, PEOPLE);
        return archive.tellsKnown(person);
    }

    /** Returns who would be OPENED by somebody, arrested now, behind so many nights. */
    public int risk(int person, int nights)
            throws IndexOutOfBoundsException, IllegalArgumentException {
        needIndex(person, PEOPLE);
        needArgument(nights >= 0 && nights <= MOST_NIGHTS);
        int opened = 0;
        for (int passed = people.strength[person]; passed < nights; passed++) {
            int other = people.lowestUnknown(person, opened);
            if (other != NONE) {
                opened |= bit(other);
            }
        }
        return opened;
    }

    /** Lets nights pass: in each, those who are arrested open somebody; returns the night then. */
    public int pass(int nights) throws IllegalArgumentException, IllegalStateException {
        needArgument(nights >= 1 && nights <= MOST_NIGHTS);
        needState(night + nights <= LAST_NIGHT);
        for (int passed = 0; passed < nights; passed++) {
            night++;
            for (int person = 0; person < PEOPLE; person++) {
                if (people.opensIn(person, night)) {
                    openOne(person);
                }
            }
        }
        return night;
    }

    // ---- the archive

    /** Tells whether somebody lives, and has consented. */
    public void life(int person, boolean lives, boolean consents) throws IndexOutOfBoundsException {
        needIndex(person, PEOPLE);
        people.isNamed[person] = !lives || consents;
    }

    /** Opens the archive, for good; returns how many lines there are. */
    public int open() {
        archive.isOpen = true;
        return archive.count;
    }

    /** Tells of a line: 0 its night, 1 its kind, 2 who did it, 3 of whom it is. */
    public int line(int line, int what)
            throws IndexOutOfBoundsException, IllegalArgumentException, IllegalStateException {
        needIndex(line, archive.count);
        needArgument(what >= 0 && what <= 3);
        needState(archive.isOpen);
        switch (what) {
            case 0:
                return archive.nights[line];
            case 1:
                return archive.kinds[line];
            case 2:
                return nameInArchive(archive.doers[line]);
            default:
                return nameInArchive(archive.subjects[line]);
        }
    }

    // ---- what the calls above are made of

    private static void needIndex(int index, int count) {
        if (index < 0 || index >= count) {
            throw new IndexOutOfBoundsException("there is no such one");
        }
    }

    private static void needArgument(boolean inRange) {
        if (!inRange) {
            throw new IllegalArgumentException("an argument is out of range");
        }
    }

    private static void needState(boolean allowed) {
        if (!allowed) {
            throw new IllegalStateException("this cannot be done now");
        }
    }

    private static int bit(int person) {
        return 1 << person;
    }

    /** A sheet that is burned or seized is with NONE, who is not free. */
    private boolean canType(int person, int machine) {
        return people.isFree(person) && machines.holders[machine] == person;
    }

    private int makeCopy(int sheet, int copy, int machine) {
        int made = sheets.add(sheets.texts[sheet], copy, sheet, machine);
        for (int place = 0; place < PLACES; place++) {
            int typed = slips.apply(place, sheets.readings[sheet][place]);
            boolean pale = place % PALE_EVERY < copy - BLACK_COPY;
            sheets.readings[made][place] = typed >= 0 && pale ? BLANK : typed;
        }
        return made;
    }

    private void bringTo(int sheet, int person) {
        sheets.holders[sheet] = person;
        sheets.hours[sheet] = 0;
        sheets.everHad[sheet] |= bit(person);
        if (people.isInformer(person)) {
            see(sheet);
        }
    }

    private void castVotes(int text, int place) {
        Arrays.fill(votes, NONE);
        // The sheets of a batch stand by copies, so the first with a word is the lowest.
        for (int sheet = 0; sheet < sheets.count; sheet++) {
            int batch = sheets.batchOf[sheet];
            if (votes[batch] == NONE && sheets.canVote(sheet, text, place)) {
                votes[batch] = sheets.readings[sheet][place];
            }
        }
    }

    private int countVotes(int word) {
        int number = 0;
        for (int batch = 0; batch < sheets.batches; batch++) {
            if (word != NONE && votes[batch] == word) {
                number++;
            }
        }
        return number;
    }

    private void tellOf(int person, int other) {
        if (people.isInformer(person)) {
            noteKnown(other, INFORMED, person);
        }
    }

    private void noteKnown(int person, int how, int doer) {
        if (!people.isListed(person)) {
            people.known |= bit(person);
            archive.add(night, how, doer, person);
        }
    }

    private void see(int sheet) {
        int machine = sheets.machines[sheet];
        machines.seen[machine] = true;
        compareLetters(machine);
    }

    private void compareLetters(int machine) {
        if (machines.seen[machine] && machines.noted[machine] != NONE) {
            noteKnown(machines.noted[machine], MACHINE, NONE);
        }
    }

    private int seizeSheets(int person, int hours) {
        int seized = 0;
        for (int sheet = 0; sheet < sheets.count; sheet++) {
            if (sheets.holders[sheet] == person && sheets.hours[sheet] <= hours) {
                sheets.holders[sheet] = NONE;
                sheets.seized[sheet] = true;
                see(sheet);
                seized++;
            }
        }
        return seized;
    }

    private void seizeMachines(int person) {
        for (int machine = 0; machine < MACHINES; machine++) {
            if (machines.holders[machine] == person) {
                machines.noted[machine] = person;
                machines.seen[machine] = true;
                machines.holders[machine] = NONE;
                machines.seized[machine] = true;
                compareLetters(machine);
            }
        }
    }

    private void openOne(int person) {
        int other = people.lowestUnknown(person, 0);
        if (other != NONE) {
            noteKnown(other, OPENED, person);
        }
    }

    private int nameInArchive(int person) {
        return person == NONE || people.isNamed[person] ? person : COVERED;
    }

    /** What is told for the next batch: at each place a kind of slip, or NONE. */
    private static final class Slips {
        final int[] kinds = new int[PLACES];
        final int[] words = new int[PLACES];

        Slips() {
            Arrays.fill(kinds, NONE);
        }

        void forget() {
            Arrays.fill(kinds, NONE);
        }

        int countPlaces() {
            int places = 0;
            for (int place = 0; place < PLACES; place++) {
                if (kinds[place] != NONE) {
                    places++;
                }
            }
            return places;
        }

        int apply(int place, int reading) {
            switch (kinds[place]) {
                case WORD:
                    return reading >= 0 ? words[place] : reading;
                case LEAP:
                    return OMITTED;
                case GUESS:
                    return reading == BLANK ? words[place] : reading;
                default:
                    return reading;
            }
        }
    }

    /** The sheets by their numbers, which go by batches, and in a batch by copies. */
    private static final class Sheets {
        int count = 0;
        int batches = 0;
        final int[] texts = new int[SHEETS];
        final int[] batchOf = new int[SHEETS];
        final int[] copies = new int[SHEETS];
        final int[] sources = new int[SHEETS];
        final int[] machines = new int[SHEETS];
        final int[] holders = new int[SHEETS];
        final boolean[] seized = new boolean[SHEETS];
        final int[] hours = new int[SHEETS];
        final int[] everHad = new int[SHEETS];
        final int[][] readings = new int[SHEETS][PLACES];

        /** Adds one to the batch begun last; the caller has seen that there is room. */
        int add(int text, int copy, int source, int machine) {
            int made = count;
            texts[made] = text;
            batchOf[made] = batches - 1;
            copies[made] = copy;
            sources[made] = source;
            machines[made] = machine;
            count++;
            return made;
        }

        boolean anyOf(int text) {
            for (int sheet = 0; sheet < count; sheet++) {
                if (texts[sheet] == text) {
                    return true;
                }
            }
            return false;
        }

        boolean couldBeParent(int other, int sheet) {
            return texts[other] == texts[sheet] && batchOf[other] < batchOf[sheet];
        }

        boolean canVote(int sheet, int text, int place) {
            return texts[sheet] == text && holders[sheet] != NONE && readings[sheet][place] >= 0;
        }

        int distance(int sheet, int other) {
            int sum = 0;
            for (int place = 0; place < PLACES; place++) {
                sum += distanceAt(readings[sheet][place], readings[other][place]);
            }
            return sum;
        }

        private static int distanceAt(int reading, int parents) {
            if (parents == BLANK) {
                return reading == BLANK ? 0 : 1;
            }
            if (parents == OMITTED) {
                return reading >= 0 ? 6 : 0;
            }
            if (reading == OMITTED) {
                return 1;
            }
            return reading >= 0 && reading != parents ? 2 : 0;
        }
    }

    /** The people; a set of them has a bit for each one's number. */
    private static final class People {
        int arrested = 0;
        int informers = 0;
        int known = 0;
        final int[] acquaintances = new int[PEOPLE];
        final int[] strength = new int[PEOPLE];
        final int[] arrestNights = new int[PEOPLE];
        /** Whose names the archive tells: who does not live, or has consented. */
        final boolean[] isNamed = new boolean[PEOPLE];

        People() {
            Arrays.fill(strength, STRONG_AT_FIRST);
        }

        /** Nobody, NONE, is not free. */
        boolean isFree(int person) {
            return person != NONE && (arrested & bit(person)) == 0;
        }

        boolean isInformer(int person) {
            return (informers & bit(person)) != 0;
        }

        boolean isListed(int person) {
            return (known & bit(person)) != 0;
        }

        boolean areAcquainted(int person, int other) {
            return (acquaintances[person] & bit(other)) != 0;
        }

        void acquaint(int person, int other) {
            acquaintances[person] |= bit(other);
            acquaintances[other] |= bit(person);
        }

        boolean opensIn(int person, int night) {
            return !isFree(person) && night - arrestNights[person] > strength[person];
        }

        /** The lowest one whom the person knows, neither known nor in the set; NONE without. */
        int lowestUnknown(int person, int set) {
            int unknown = acquaintances[person] & ~known & ~set;
            for (int other = 0; other < PEOPLE; other++) {
                if ((unknown & bit(other)) != 0) {
                    return other;
                }
            }
            return NONE;
        }
    }

    /** The machines: with whom each is, with whom it is noted, and what the police have of it. */
    private static final class Machines {
        final int[] holders = new int[MACHINES];
        final int[] noted = new int[MACHINES];
        final boolean[] seen = new boolean[MACHINES];
        final boolean[] seized = new boolean[MACHINES];

        Machines() {
            Arrays.fill(holders, NONE);
            Arrays.fill(noted, NONE);
        }
    }

    /** The lines, from 0 on. */
    private static final class Archive {
        boolean isOpen = false;
        int count = 0;
        final int[] nights = new int[LINES];
        final int[] kinds = new int[LINES];
        final int[] doers = new int[LINES];
        final int[] subjects = new int[LINES];

        /** Beyond the calls that are promised there may be no room: no line is kept then. */
        void add(int night, int kind, int doer, int subject) {
            if (count < LINES) {
                nights[count] = night;
                kinds[count] = kind;
                doers[count] = doer;
                subjects[count] = subject;
                count++;
            }
        }

        boolean tellsKnown(int person) {
            for (int line = 0; line < count; line++) {
                if (kinds[line] <= OPENED && subjects[line] == person) {
                    return true;
                }
            }
            return false;
        }
    }
}
