/** The sentences on what the police know that name an edge, and promises 19 to 27. */
public final class PoliceEdgesTest {

    private static final int NONE = ThinSheets.NONE;
    private static final int INFORMED = ThinSheets.INFORMED;
    private static final int MACHINE = ThinSheets.MACHINE;
    private static final int OPENED = ThinSheets.OPENED;
    private static final int ARRESTED = ThinSheets.ARRESTED;
    private static final int SEARCHED = ThinSheets.SEARCHED;
    private static final int PEOPLE = 10;

    private PoliceEdgesTest() {
    }

    public static void main(String[] args) {
        nobodyAtFirst();
        knownStaysSo();
        oneLineForEach();
        informerOfNobody();
        informerOfAll();
        informerIsNotToldByHimself();
        informerOfWhomHeMeets();
        informerWhoIsMet();
        informerBehindAnArrest();
        twoInformersMeet();
        informerSeesWhatIsWithHim();
        informerSeesNotWhatWasWithHim();
        informerSeesWhatComes();
        informerSeesWhatHeMakes();
        machineSeenThenFiled();
        machineFiledThenSeen();
        machineSeenAlone();
        machineFiledAlone();
        machineFiledAnew();
        machineOfOneKnown();
        strongAtFirst();
        strongForEachNumber();
        strongByThen();
        openedInEachNight();
        openedTheLowest();
        openedNobodyLeft();
        openedFromThisArrestOn();
        openedByThoseArrestedAlone();
        openedByTwoOfTheSame();
        arrestOfZeroHours();
        arrestOfAllSheets();
        arrestSees();
        arrestOfOthersSheets();
        searchByHours();
        searchOfAllSheets();
        searchOfMachines();
        searchOfAllMachines();
        searchFilesWithHim();
        searchAgain();
        aLineForEach();
        orderOfAnArrest();
        orderOfASearch();
        orderOfAnInformer();
        amnestyOfAll();
        riskByNights();
        riskOfAll();
        riskOfOneArrested();
        riskIsWhatIsOpened();
        riskLeavesTheRestAside();
        passByNights();
        passTo999();
        Check.end();
    }

    /** The informer 9 has met all others, so that these are known; 8 tells of 9. */
    private static ThinSheets allKnown() {
        ThinSheets x = new ThinSheets();
        x.informer(9);
        for (int person = 0; person < 9; person++) {
            x.meet(9, person);
        }
        x.informer(8);
        return x;
    }

    // "The police know people, nobody at first"

    private static void nobodyAtFirst() {
        ThinSheets x = new ThinSheets();
        Setting.knownAre("at first", x);
        for (int number = 0; number < PEOPLE; number++) {
            int person = number;
            Check.noState("arrest at first", () -> x.arrest(person));
            Check.noState("search at first", () -> x.search(person, 0));
        }
        Check.due("no lines at first", 0, x.open());
        x.pass(30);
        Setting.knownAre("behind nights alone", x);
    }

    // "Who becomes known stays so; there is a line for that"

    private static void knownStaysSo() {
        ThinSheets x = Setting.written();
        Setting.makeKnown(x, 0, 9);
        x.arrest(0);
        x.amnesty();
        x.search(0, 9);
        x.life(0, false, false);
        x.pass(30);
        x.open();
        Setting.knownAre("for good", x, 0);
    }

    private static void oneLineForEach() {
        ThinSheets x = Setting.written();
        x.file(0);
        x.meet(0, 1);
        x.informer(1);
        x.strong(0, 0);
        x.informer(0);
        x.meet(0, 1);
        x.arrest(1);
        x.arrest(0);
        x.pass(9);
        Setting.linesAre("one line each", x, new int[][] {{0, INFORMED, 1, 0},
            {0, INFORMED, 0, 1}, {0, ARRESTED, NONE, 1}, {0, ARRESTED, NONE, 0}});
        Setting.knownAre("one line each", x, 0, 1);
    }

    // "INFORMED: an informer tells whom he knows, as he becomes one, by numbers, and then at once
    // whom he meets."

    private static void informerOfNobody() {
        ThinSheets x = new ThinSheets();
        Check.due("who knows nobody", 0, x.informer(0));
        Check.due("who knows nobody too", 0, x.informer(9));
        Check.due("no line of that", 0, x.open());
        Setting.knownAre("of nobody", x);
    }

    private static void informerOfAll() {
        ThinSheets x = new ThinSheets();
        for (int person = 9; person >= 0; person--) {
            if (person != 4) {
                x.meet(4, person);
            }
        }
        x.pass(7);
        Check.due("who knows all others", 9, x.informer(4));
        Setting.knownAre("of all others", x, 0, 1, 2, 3, 5, 6, 7, 8, 9);
        int[][] due = new int[9][];
        for (int line = 0; line < 9; line++) {
            due[line] = new int[] {7, INFORMED, 4, line < 4 ? line : line + 1};
        }
        Setting.linesAre("by numbers", x, due);
        Check.due("the other one who knows but him", 1, x.informer(9));
        Setting.knownAre("of all", x, 0, 1, 2, 3, 4, 5, 6, 7, 8, 9);
        Check.due("of who is known", 0, x.informer(0));
    }

    private static void informerIsNotToldByHimself() {
        ThinSheets x = Setting.written();
        x.meet(0, 1);
        Check.due("tells the other one", 1, x.informer(0));
        Setting.knownAre("the other one", x, 1);
        x.meet(0, 2);
        Setting.knownAre("the others", x, 1, 2);
    }

    private static void informerOfWhomHeMeets() {
        ThinSheets x = new ThinSheets();
        x.meet(1, 2);
        x.informer(0);
        x.pass(3);
        Setting.knownAre("ahead of it", x);
        x.meet(0, 9);
        Setting.knownAre("at once", x, 9);
        x.meet(9, 8);
        x.meet(2, 3);
        Setting.knownAre("not whom others meet", x, 9);
        Setting.linesAre("whom he meets", x, new int[][] {{3, INFORMED, 0, 9}});
    }

    private static void informerWhoIsMet() {
        ThinSheets x = new ThinSheets();
        x.informer(0);
        x.meet(9, 0);
        Setting.linesAre("who meets him", x, new int[][] {{0, INFORMED, 0, 9}});
        Setting.knownAre("who meets him", x, 9);
    }

    private static void informerBehindAnArrest() {
        ThinSheets x = new ThinSheets();
        x.meet(0, 1);
        x.informer(0);
        x.informer(1);
        x.arrest(0);
        x.amnesty();
        Check.noState("one yet", () -> x.informer(0));
        x.meet(0, 5);
        Setting.knownAre("tells yet", x, 0, 1, 5);
    }

    // "Of two informers who meet, the one who is named first tells first."

    private static void twoInformersMeet() {
        ThinSheets x = new ThinSheets();
        x.informer(3);
        x.informer(8);
        x.meet(8, 3);
        Setting.linesAre("the greater is named first", x,
                new int[][] {{0, INFORMED, 8, 3}, {0, INFORMED, 3, 8}});
        ThinSheets y = new ThinSheets();
        y.informer(8);
        y.informer(3);
        y.meet(3, 8);
        Setting.linesAre("the lesser is named first", y,
                new int[][] {{0, INFORMED, 3, 8}, {0, INFORMED, 8, 3}});
        ThinSheets z = new ThinSheets();
        z.informer(3);
        z.informer(8);
        z.meet(3, 5);
        z.meet(5, 8);
        z.meet(8, 3);
        z.meet(3, 8);
        Setting.linesAre("of these none twice", z, new int[][] {{0, INFORMED, 3, 5},
            {0, INFORMED, 8, 3}, {0, INFORMED, 3, 8}});
    }

    // "The police see each sheet that is with him, or comes to him."

    private static void informerSeesWhatIsWithHim() {
        ThinSheets x = Setting.written();
        x.file(0);
        x.hide(0, 9);
        Check.due("even what is hidden", 1, x.informer(0));
        Setting.linesAre("known by a sheet", x, new int[][] {{0, MACHINE, NONE, 0}});
        Check.due("it stays with him", 0, x.sheetIs(0, 5));
        Check.due("it is not seized", 0, x.sheetIs(0, 6));
        Check.due("it is as hidden", 9, x.sheetIs(0, 7));
    }

    private static void informerSeesNotWhatWasWithHim() {
        ThinSheets x = Setting.written();
        x.file(0);
        x.meet(0, 1);
        x.give(0, 1);
        x.write(0, 0, 0);
        x.burn(1);
        Check.due("what was given and what was burned", 1, x.informer(0));
        Setting.knownAre("told alone", x, 1);
        x.give(0, 0);
        Setting.knownAre("as it comes back", x, 0, 1);
    }

    private static void informerSeesWhatComes() {
        ThinSheets x = Setting.written();
        x.file(0);
        x.meet(0, 1);
        x.meet(1, 2);
        x.informer(2);
        x.give(0, 1);
        Setting.knownAre("it comes to another", x, 1);
        x.pass(1);
        x.give(0, 2);
        Setting.linesAre("it comes to him", x,
                new int[][] {{0, INFORMED, 2, 1}, {1, MACHINE, NONE, 0}});
    }

    private static void informerSeesWhatHeMakes() {
        ThinSheets x = new ThinSheets();
        x.lend(0, 1);
        x.file(0);
        x.lend(1, 2);
        x.file(1);
        x.lend(0, 0);
        x.lend(1, 0);
        x.informer(0);
        Setting.knownAre("a machine is no sheet", x);
        x.write(0, 0, 0);
        Setting.knownAre("what he writes", x, 1);
        x.type(0, 1, 6);
        Setting.knownAre("what he types", x, 1, 2);
        Check.due("a line for each", 2, x.open());
    }

    // "MACHINE: as soon as a sheet of a machine was seen, and it is filed, with whom it is noted
    // becomes known."

    private static void machineSeenThenFiled() {
        ThinSheets x = Setting.written();
        x.informer(0);
        Setting.knownAre("seen, and not filed", x);
        x.pass(2);
        x.file(0);
        Setting.linesAre("seen, then filed", x, new int[][] {{2, MACHINE, NONE, 0}});
    }

    private static void machineFiledThenSeen() {
        ThinSheets x = Setting.written();
        x.lend(0, 9);
        x.file(0);
        x.lend(0, 5);
        Setting.knownAre("filed, and not seen", x);
        x.pass(2);
        Check.due("by a sheet", 1, x.informer(0));
        Setting.linesAre("filed, then seen", x, new int[][] {{2, MACHINE, NONE, 9}});
    }

    private static void machineSeenAlone() {
        ThinSheets x = Setting.written();
        x.informer(0);
        x.lend(1, 5);
        x.file(1);
        Setting.knownAre("another machine is filed", x);
        x.lend(0, 5);
        Setting.knownAre("lent, and not filed", x);
    }

    private static void machineFiledAlone() {
        ThinSheets x = Setting.written();
        x.file(0);
        x.lend(1, 1);
        x.informer(1);
        x.write(0, 1, 1);
        Setting.knownAre("a sheet of another machine is seen", x);
        x.burn(0);
        x.file(0);
        Setting.knownAre("burned, and never seen", x);
    }

    private static void machineFiledAnew() {
        ThinSheets x = Setting.written();
        x.file(0);
        x.informer(0);
        for (int person = 1; person < PEOPLE; person++) {
            x.lend(0, person);
            Setting.knownAre("lent to the next one", x, below(person));
            Check.due("filed with the one before", person - 1, x.file(0));
            Setting.knownAre("filed with the next one", x, below(person + 1));
        }
        Check.due("a line for each", 10, x.open());
    }

    private static int[] below(int end) {
        int[] people = new int[end];
        for (int person = 0; person < end; person++) {
            people[person] = person;
        }
        return people;
    }

    private static void machineOfOneKnown() {
        ThinSheets x = Setting.written();
        x.file(0);
        Setting.makeKnown(x, 0, 9);
        x.give(0, 9);
        x.file(0);
        Setting.linesAre("no line of one who is known", x, new int[][] {{0, INFORMED, 9, 0}});
    }

    // "OPENED: ... in each night that passes behind so many, counted from this arrest on, as he is
    // strong by then, 3 at first, the lowest one whom he knows who is not known yet."

    /** 0 knows 1 to 8, and is known by the informer 9. */
    private static ThinSheets toBeOpened() {
        ThinSheets x = new ThinSheets();
        for (int person = 8; person >= 1; person--) {
            x.meet(0, person);
        }
        Setting.makeKnown(x, 0, 9);
        return x;
    }

    private static void strongAtFirst() {
        ThinSheets x = toBeOpened();
        x.arrest(0);
        x.pass(3);
        Setting.knownAre("behind 3 nights", x, 0);
        x.pass(1);
        Setting.knownAre("behind 4 nights", x, 0, 1);
    }

    private static void strongForEachNumber() {
        for (int nights = 0; nights <= 9; nights++) {
            ThinSheets x = toBeOpened();
            x.strong(0, nights);
            x.pass(30);
            x.arrest(0);
            Setting.knownAre("in the night of the arrest", x, 0);
            for (int passed = 0; passed < nights; passed++) {
                x.pass(1);
            }
            Setting.knownAre("behind " + nights, x, 0);
            x.pass(1);
            Setting.knownAre("behind one more than " + nights, x, 0, 1);
            Setting.linesAre("strong for " + nights, x, new int[][] {{0, INFORMED, 9, 0},
                {30, ARRESTED, NONE, 0}, {31 + nights, OPENED, 0, 1}});
        }
    }

    private static void strongByThen() {
        ThinSheets x = toBeOpened();
        x.arrest(0);
        x.pass(2);
        x.strong(0, 1);
        Setting.knownAre("not by telling it", x, 0);
        x.pass(1);
        Setting.knownAre("less strong by then", x, 0, 1);
        x.strong(0, 9);
        x.pass(6);
        Setting.knownAre("stronger by then, 9 nights", x, 0, 1);
        x.pass(1);
        Setting.knownAre("stronger by then, 10 nights", x, 0, 1, 2);
        x.strong(1, 0);
        x.pass(1);
        Setting.knownAre("another's strength", x, 0, 1, 2, 3);
    }

    private static void openedInEachNight() {
        ThinSheets x = toBeOpened();
        x.strong(0, 0);
        x.arrest(0);
        x.pass(3);
        Setting.linesAre("one a night", x, new int[][] {{0, INFORMED, 9, 0},
            {0, ARRESTED, NONE, 0}, {1, OPENED, 0, 1}, {2, OPENED, 0, 2}, {3, OPENED, 0, 3}});
        x.pass(30);
        Setting.knownAre("all whom he knows", x, 0, 1, 2, 3, 4, 5, 6, 7, 8, 9);
        Check.due("a line for each", 11, x.open());
        Check.due("the last one", 9, x.line(10, 3));
        Check.due("the last night", 9, x.line(10, 0));
    }

    private static void openedTheLowest() {
        ThinSheets x = new ThinSheets();
        x.meet(4, 9);
        x.meet(4, 0);
        x.meet(4, 5);
        Setting.makeKnown(x, 4, 8);
        x.strong(4, 0);
        x.arrest(4);
        x.pass(1);
        Setting.knownAre("the lowest", x, 0, 4);
        x.meet(8, 5);
        x.pass(1);
        Setting.knownAre("the lowest that is not known", x, 0, 4, 5, 8);
        x.pass(1);
        Setting.knownAre("the highest", x, 0, 4, 5, 8, 9);
    }

    private static void openedNobodyLeft() {
        ThinSheets x = allKnown();
        x.strong(0, 0);
        x.arrest(0);
        x.pass(30);
        Check.due("no line where all are known", 11, x.open());
        ThinSheets y = Setting.written();
        y.file(0);
        y.informer(0);
        y.strong(0, 0);
        y.arrest(0);
        y.pass(30);
        Check.due("no line of one who knows nobody", 2, y.open());
    }

    private static void openedFromThisArrestOn() {
        ThinSheets x = toBeOpened();
        x.arrest(0);
        x.pass(3);
        x.amnesty();
        x.pass(30);
        Setting.knownAre("free", x, 0);
        x.arrest(0);
        x.pass(3);
        Setting.knownAre("arrested anew, behind 3 nights", x, 0);
        x.pass(1);
        Setting.knownAre("arrested anew, behind 4 nights", x, 0, 1);
        x.amnesty();
        x.arrest(0);
        x.pass(3);
        Setting.knownAre("a third time, in the same night", x, 0, 1);
    }

    private static void openedByThoseArrestedAlone() {
        ThinSheets x = toBeOpened();
        x.strong(0, 0);
        x.strong(9, 0);
        x.pass(30);
        Setting.knownAre("known, and free", x, 0);
    }

    private static void openedByTwoOfTheSame() {
        ThinSheets x = new ThinSheets();
        x.meet(7, 4);
        x.meet(2, 4);
        x.meet(2, 5);
        x.meet(7, 6);
        x.informer(9);
        x.meet(9, 7);
        x.meet(9, 2);
        x.arrest(7);
        x.arrest(2);
        x.strong(7, 0);
        x.strong(2, 0);
        x.pass(2);
        Setting.linesAre("by numbers, none twice", x, new int[][] {{0, INFORMED, 9, 7},
            {0, INFORMED, 9, 2}, {0, ARRESTED, NONE, 7}, {0, ARRESTED, NONE, 2},
            {1, OPENED, 2, 4}, {1, OPENED, 7, 6}, {2, OPENED, 2, 5}, {2, OPENED, 7, 9}});
    }

    // "An arrest is of somebody who is free, and known: the sheets with him that take 0 hours are
    // seized, and seen."

    private static void arrestOfZeroHours() {
        ThinSheets x = Setting.written();
        x.type(0, 0, 6);
        x.hide(1, 1);
        x.hide(2, 9);
        x.hide(3, 5);
        x.hide(3, 0);
        Setting.makeKnown(x, 0, 9);
        Check.due("seized", 5, x.arrest(0));
        int[] seized = {1, 0, 0, 1, 1, 1, 1};
        for (int sheet = 0; sheet < seized.length; sheet++) {
            Check.due("seized " + sheet, seized[sheet], x.sheetIs(sheet, 6));
        }
        x.amnesty();
        Check.due("nothing by another arrest", 0, x.arrest(0));
    }

    private static void arrestOfAllSheets() {
        ThinSheets x = Story.FULL.made();
        Setting.makeKnown(x, 0, 9);
        Check.due("all but the burned one", 39, x.arrest(0));
        for (int sheet = 0; sheet < 40; sheet++) {
            Check.due("with nobody", NONE, x.sheetIs(sheet, 5));
            Check.due("seized", sheet == 36 ? 0 : 1, x.sheetIs(sheet, 6));
        }
    }

    private static void arrestSees() {
        ThinSheets x = Setting.written();
        x.lend(0, 1);
        x.file(0);
        x.hide(0, 1);
        Setting.makeKnown(x, 0, 9);
        x.arrest(0);
        Setting.knownAre("what is hidden is not seen", x, 0);
        x.amnesty();
        x.hide(0, 0);
        x.arrest(0);
        Setting.knownAre("what is seized is seen", x, 0, 1);
        Check.due("the machine is no sheet", 1, x.lend(0, 1));
    }

    private static void arrestOfOthersSheets() {
        ThinSheets x = Setting.written();
        x.meet(0, 1);
        x.type(0, 0, 2);
        x.give(1, 1);
        Setting.makeKnown(x, 0, 9);
        x.meet(9, 1);
        Check.due("with him alone", 2, x.arrest(0));
        Check.due("with another", 1, x.sheetIs(1, 5));
        Check.due("of the other", 1, x.arrest(1));
    }

    // "those with him that take no more hours than the search are seized, and seen"

    private static void searchByHours() {
        ThinSheets x = Setting.written();
        for (int hours = 1; hours <= 9; hours++) {
            x.write(0, 0, 0);
            x.hide(hours, hours);
        }
        Setting.makeKnown(x, 0, 9);
        for (int hours = 0; hours <= 9; hours++) {
            Check.due("one by a search for " + hours, 1, x.search(0, hours));
            for (int sheet = 0; sheet <= 9; sheet++) {
                Check.due("seized " + sheet, sheet <= hours, x.sheetIs(sheet, 6) == 1);
            }
            Check.due("none by the same again", 0, x.search(0, hours));
        }
    }

    private static void searchOfAllSheets() {
        ThinSheets x = Story.FULL.made();
        for (int sheet = 0; sheet < 40; sheet++) {
            if (sheet != 36) {
                x.hide(sheet, 9);
            }
        }
        Setting.makeKnown(x, 0, 9);
        Check.due("none for 8", 0, x.search(0, 8));
        Check.due("all but the burned one for 9", 39, x.search(0, 9));
        Check.due("none is left", 0, x.search(0, 9));
    }

    // "if it takes 5 hours or more, so are the machines with him: these are filed with him, count
    // as seen, and are with nobody any more for good"

    private static void searchOfMachines() {
        for (int hours = 0; hours <= 9; hours++) {
            ThinSheets x = Setting.written();
            Setting.makeKnown(x, 0, 9);
            x.search(0, hours);
            String got = Check.outcome(() -> x.lend(0, 1));
            if (!got.equals(hours < 5 ? "0" : "IllegalStateException")) {
                Check.report("a machine behind a search for " + hours + ": " + got);
            }
        }
    }

    private static void searchOfAllMachines() {
        ThinSheets x = new ThinSheets();
        for (int machine = 0; machine < 3; machine++) {
            x.lend(machine, 0);
        }
        x.lend(3, 1);
        Setting.makeKnown(x, 0, 9);
        Check.due("machines are no sheets", 0, x.search(0, 5));
        for (int number = 0; number < 3; number++) {
            int machine = number;
            Check.noState("with nobody any more", () -> x.file(machine));
            Check.noState("for good", () -> x.lend(machine, 0));
        }
        Check.due("with another", NONE, x.file(3));
        x.lend(3, 0);
        x.search(0, 9);
        Check.noState("with him by now", () -> x.lend(3, 0));
        Check.due("lines: one known, two searches", 3, x.open());
    }

    private static void searchFilesWithHim() {
        ThinSheets x = Setting.written();
        x.lend(0, 7);
        x.file(0);
        x.meet(0, 6);
        x.give(0, 6);
        x.lend(0, 0);
        Setting.makeKnown(x, 0, 9);
        x.search(0, 5);
        Setting.knownAre("seen with him as noted", x, 0);
        x.informer(6);
        Setting.knownAre("seen by a sheet, noted with him, not as before", x, 0);
    }

    private static void searchAgain() {
        ThinSheets x = Setting.written();
        x.hide(0, 9);
        Setting.makeKnown(x, 0, 9);
        for (int search = 0; search < 20; search++) {
            Check.due("nothing is found", 0, x.search(0, 8));
        }
        x.arrest(0);
        Check.due("of one who is arrested", 1, x.search(0, 9));
        x.amnesty();
        Check.due("of one who is freed", 0, x.search(0, 9));
    }

    // "There is a line for each arrest, and each search."

    private static void aLineForEach() {
        ThinSheets x = new ThinSheets();
        Setting.makeKnown(x, 0, 9);
        x.pass(1);
        x.search(0, 0);
        x.search(0, 0);
        x.arrest(0);
        x.search(0, 9);
        x.amnesty();
        x.pass(1);
        x.arrest(0);
        Setting.linesAre("a line for each", x, new int[][] {{0, INFORMED, 9, 0},
            {1, SEARCHED, NONE, 0}, {1, SEARCHED, NONE, 0}, {1, ARRESTED, NONE, 0},
            {1, SEARCHED, NONE, 0}, {2, ARRESTED, NONE, 0}});
    }

    // "By one call lines come in this order: that of the arrest or search; whom an informer tells;
    // then by sheets, by numbers, what is seen of them; then by machines that are seized"

    /** The sheets 0 to 2, with 0, are of the machines 2, 0 and 1, noted with 6, 8 and 7. */
    private static ThinSheets noted() {
        ThinSheets x = new ThinSheets();
        for (int machine = 0; machine < 3; machine++) {
            x.lend(machine, 8 - machine);
            x.file(machine);
            x.lend(machine, 0);
        }
        x.write(0, 0, 2);
        x.write(0, 0, 0);
        x.write(0, 0, 1);
        return x;
    }

    private static void orderOfAnArrest() {
        ThinSheets x = noted();
        Setting.makeKnown(x, 0, 9);
        Check.due("arrest", 3, x.arrest(0));
        Setting.linesAre("arrest", x, new int[][] {{0, INFORMED, 9, 0}, {0, ARRESTED, NONE, 0},
            {0, MACHINE, NONE, 6}, {0, MACHINE, NONE, 8}, {0, MACHINE, NONE, 7}});
    }

    private static void orderOfASearch() {
        ThinSheets x = noted();
        x.hide(0, 9);
        Setting.makeKnown(x, 0, 9);
        Check.due("search", 2, x.search(0, 8));
        Setting.linesAre("search", x, new int[][] {{0, INFORMED, 9, 0}, {0, SEARCHED, NONE, 0},
            {0, MACHINE, NONE, 8}, {0, MACHINE, NONE, 7}});
        x.search(0, 9);
        Setting.knownAre("the machine 2 is noted with him by now", x, 0, 7, 8);
    }

    private static void orderOfAnInformer() {
        ThinSheets x = noted();
        x.meet(0, 9);
        x.meet(0, 7);
        Check.due("those told and those by sheets", 4, x.informer(0));
        Setting.linesAre("informer", x, new int[][] {{0, INFORMED, 0, 7}, {0, INFORMED, 0, 9},
            {0, MACHINE, NONE, 6}, {0, MACHINE, NONE, 8}});
    }

    // "With an amnesty all who are arrested are free."

    private static void amnestyOfAll() {
        ThinSheets x = allKnown();
        for (int person = 0; person < PEOPLE; person++) {
            Check.due("freed", person, arrestBelow(x, person));
        }
        Check.due("all", 10, arrestBelow(x, 10));
        Check.due("nobody", 0, x.amnesty());
        Setting.knownAre("known yet", x, 0, 1, 2, 3, 4, 5, 6, 7, 8, 9);
        Check.due("no line of an amnesty", 10 + 45 + 10, x.open());
    }

    private static int arrestBelow(ThinSheets x, int end) {
        for (int person = 0; person < end; person++) {
            x.arrest(person);
        }
        return x.amnesty();
    }

    // Promise 26

    private static void riskByNights() {
        for (int strong = 0; strong <= 9; strong++) {
            ThinSheets x = toBeOpened();
            x.strong(0, strong);
            for (int nights = 0; nights <= 30; nights++) {
                // 9, the informer, is not known: he is the last one.
                int opened = Math.max(0, Math.min(9, nights - strong));
                Check.due("strong for " + strong + ", behind " + nights, (2 << opened) - 2,
                        x.risk(0, nights));
            }
        }
    }

    private static void riskOfAll() {
        ThinSheets x = new ThinSheets();
        for (int person = 0; person < 9; person++) {
            x.meet(9, person);
        }
        Check.due("all others", 511, x.risk(9, 30));
        Check.due("all others, just", 511, x.risk(9, 12));
        Check.due("all others but one", 255, x.risk(9, 11));
        Check.due("one who knows one", 1 << 9, x.risk(0, 30));
        x.informer(9);
        Check.due("nobody who is known", 0, x.risk(9, 30));
        Check.due("one who is known opens yet", 1 << 9, x.risk(0, 4));
        ThinSheets y = new ThinSheets();
        Check.due("nobody", 0, y.risk(0, 30));
    }

    private static void riskOfOneArrested() {
        ThinSheets x = toBeOpened();
        x.arrest(0);
        x.pass(3);
        Check.due("arrested now, not then", 0, x.risk(0, 3));
        Check.due("arrested now, 4 nights", 2, x.risk(0, 4));
        x.pass(1);
        Check.due("without who is opened by then", 4, x.risk(0, 4));
    }

    private static void riskIsWhatIsOpened() {
        ThinSheets x = toBeOpened();
        for (int nights = 1; nights <= 30; nights++) {
            ThinSheets y = toBeOpened();
            y.arrest(0);
            int risk = x.risk(0, nights);
            y.pass(nights);
            int known = 0;
            for (int person = 1; person < PEOPLE; person++) {
                known |= y.isKnown(person) ? 1 << person : 0;
            }
            Check.due("behind " + nights, known, risk);
        }
        Setting.knownAre("asking opens nobody", x, 0);
    }

    /** "if nothing else happened; what is seen by seizing at that arrest is left aside" */
    private static void riskLeavesTheRestAside() {
        ThinSheets x = Setting.written();
        x.meet(0, 5);
        x.meet(0, 6);
        x.meet(1, 5);
        x.lend(0, 5);
        x.file(0);
        x.strong(0, 0);
        x.strong(1, 0);
        Setting.makeKnown(x, 1, 9);
        x.arrest(1);
        Check.due("who would be known by the sheet, and by another", 1 << 5, x.risk(0, 1));
        Check.due("the next one", Setting.setOf(5, 6), x.risk(0, 2));
        Check.due("the sheet is not seized", 0, x.sheetIs(0, 5));
        x.pass(1);
        Check.due("behind the other's opening", 1 << 6, x.risk(0, 1));
    }

    // Promise 27, and "Time goes by nights, from 0 on, to 999."

    private static void passByNights() {
        ThinSheets x = new ThinSheets();
        int night = 0;
        for (int nights = 1; nights <= 30; nights++) {
            night += nights;
            Check.due("pass(" + nights + ")", night, x.pass(nights));
        }
        Setting.makeKnown(x, 0, 9);
        Setting.linesAre("the night that it is", x, new int[][] {{465, INFORMED, 9, 0}});
    }

    private static void passTo999() {
        ThinSheets x = new ThinSheets();
        x.meet(1, 2);
        Setting.makeKnown(x, 0, 9);
        for (int month = 0; month < 33; month++) {
            Check.due("pass(30)", 30 * (month + 1), x.pass(30));
        }
        x.meet(9, 1);
        x.pass(5);
        x.arrest(1);
        Check.noState("above by one", () -> x.pass(5));
        Check.due("just", 999, x.pass(4));
        for (int nights = 1; nights <= 30; nights++) {
            int more = nights;
            Check.noState("above by " + more, () -> x.pass(more));
        }
        x.search(1, 0);
        Setting.linesAre("from the night 0 to the night 999", x, new int[][] {
            {0, INFORMED, 9, 0}, {990, INFORMED, 9, 1}, {995, ARRESTED, NONE, 1},
            {999, OPENED, 1, 2}, {999, SEARCHED, NONE, 1}});
    }
}
