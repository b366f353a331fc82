/** The sentences on people and machines that name an edge, and promises 11 to 18. */
public final class PeopleEdgesTest {

    private static final int NONE = ThinSheets.NONE;
    private static final int OMITTED = ThinSheets.OMITTED;
    private static final int BLANK = ThinSheets.BLANK;
    private static final int PEOPLE = 10;

    private PeopleEdgesTest() {
    }

    public static void main(String[] args) {
        allFreeAtFirst();
        nobodyKnownAtFirst();
        allMeet();
        knowForEver();
        meetAgain();
        withSomebodyTillBurned();
        withSomebodyTillSeized();
        withTheOneWhoTypes();
        givenToWhomOneKnows();
        givenToAllInTurn();
        hoursAtFirst();
        hoursAsToldByHiding();
        hoursAsItComes();
        whoHadWithNobody();
        whoHadByReadings();
        whoHadByAll();
        whoHadTwice();
        whoHadForEver();
        machinesWithNobodyAtFirst();
        machinesLent();
        machinesOfOne();
        machinesSeizedForGood();
        whoTypesHasAMachine();
        filedWithWhomItIsThen();
        filedInPlaceOfWhatWasNoted();
        filedApart();
        Check.end();
    }

    // "There are the people 0 to 9, all free at first, who know nobody."

    private static void allFreeAtFirst() {
        ThinSheets x = new ThinSheets();
        Check.due("nobody to be freed", 0, x.amnesty());
        for (int person = 0; person < PEOPLE; person++) {
            Check.due("lend to one who is free", person - 1, x.lend(0, person));
            Check.due("write by one who is free", person, x.write(0, person, 0));
            Check.due("informer who is free", 0, x.informer(person));
        }
    }

    private static void nobodyKnownAtFirst() {
        for (int person = 0; person < PEOPLE; person++) {
            ThinSheets x = new ThinSheets();
            Check.due("knows nobody at first", 0, x.knows(person));
            Check.due("has nobody to open at first", 0, x.risk(person, 30));
            Check.due("has nobody to tell at first", 0, x.informer(person));
        }
    }

    private static void allMeet() {
        ThinSheets x = new ThinSheets();
        for (int person = 0; person < PEOPLE; person++) {
            Check.due("does not know himself", 0, x.knows(person) & 1 << person);
            for (int other = person + 1; other < PEOPLE; other++) {
                Check.due("meet", true, x.meet(other, person));
            }
            Check.due("knows all others", 1023 - (1 << person), x.knows(person));
        }
        for (int person = 0; person < PEOPLE; person++) {
            Check.due("knows all others behind all", 1023 - (1 << person), x.knows(person));
        }
    }

    // "Two who meet know each other for ever."

    private static void knowForEver() {
        ThinSheets x = Setting.written();
        x.meet(0, 9);
        x.meet(1, 0);
        Setting.makeKnown(x, 0, 5);
        x.meet(5, 9);
        x.arrest(0);
        x.arrest(9);
        x.search(0, 9);
        x.pass(30);
        Check.due("arrested, and searched", Setting.setOf(1, 5, 9), x.knows(0));
        x.amnesty();
        Check.due("freed", Setting.setOf(0, 5), x.knows(9));
        Check.due("freed, and met again", false, x.meet(9, 0));
        Check.due("who was not arrested", 1, x.knows(1));
    }

    // Promise 11: "Returns whether they did not know each other."

    private static void meetAgain() {
        ThinSheets x = new ThinSheets();
        Check.due("met", true, x.meet(9, 0));
        Check.due("met again", false, x.meet(9, 0));
        Check.due("met again, the other way", false, x.meet(0, 9));
        Check.due("one of them met another", true, x.meet(0, 1));
        Check.due("whom the other one does not know by that", true, x.meet(1, 9));
        x.informer(9);
        Check.due("an informer met again", false, x.meet(0, 9));
        Check.due("no line of that", 2, x.open());
    }

    // "A sheet is with somebody, till it is burned or seized"

    private static void withSomebodyTillBurned() {
        ThinSheets x = Setting.written();
        x.write(0, 0, 0);
        Check.due("with the author", 0, x.sheetIs(0, 5));
        x.pass(30);
        Check.due("with the author yet", 0, x.sheetIs(0, 5));
        x.burn(0);
        Check.due("burned", NONE, x.sheetIs(0, 5));
        Check.due("burned, not seized", 0, x.sheetIs(0, 6));
        Check.due("another one", 0, x.sheetIs(1, 5));
        Setting.makeKnown(x, 0, 9);
        Check.due("the burned one is not seized", 1, x.arrest(0));
        Check.due("burned, not seized behind an arrest", 0, x.sheetIs(0, 6));
    }

    private static void withSomebodyTillSeized() {
        ThinSheets x = Setting.written();
        x.write(0, 0, 0);
        x.hide(1, 1);
        Setting.makeKnown(x, 0, 9);
        x.arrest(0);
        Check.due("seized", NONE, x.sheetIs(0, 5));
        Check.due("with one who is arrested", 0, x.sheetIs(1, 5));
        x.amnesty();
        Check.due("seized, behind an amnesty", NONE, x.sheetIs(0, 5));
        Check.due("seized, behind an amnesty too", 1, x.sheetIs(0, 6));
        Check.due("with one who is freed", 0, x.sheetIs(1, 5));
    }

    private static void withTheOneWhoTypes() {
        ThinSheets x = Setting.written();
        x.meet(0, 9);
        x.give(0, 9);
        x.lend(0, 9);
        x.type(0, 0, 6);
        for (int sheet = 0; sheet <= 6; sheet++) {
            Check.due("with the one who typed it", 9, x.sheetIs(sheet, 5));
        }
    }

    // "it can be given to whom that one knows"

    private static void givenToWhomOneKnows() {
        ThinSheets x = Setting.written();
        x.meet(1, 2);
        Check.noState("not met", () -> x.give(0, 1));
        x.meet(1, 0);
        Check.noState("whom the next one knows", () -> x.give(0, 2));
        Check.due("met", 0, x.give(0, 1));
        Check.noState("to oneself, whom one does not know", () -> x.give(0, 1));
        Check.due("to whom the next one knows", 1, x.give(0, 2));
        Check.noState("back over one", () -> x.give(0, 0));
        Check.due("back by one", 2, x.give(0, 1));
    }

    private static void givenToAllInTurn() {
        ThinSheets x = Setting.written();
        for (int person = 0; person < 9; person++) {
            x.meet(person, person + 1);
            Check.due("with whom it was", person, x.give(0, person + 1));
            Check.due("with whom it is", person + 1, x.sheetIs(0, 5));
        }
        Check.due("who had it", 1023, x.whoHad(0, 0, 0));
    }

    // "It takes so many hours to be found, 0 as it comes to somebody, or as told by hiding."

    private static void hoursAtFirst() {
        ThinSheets x = Setting.written();
        x.hide(0, 9);
        x.type(0, 0, 2);
        x.write(0, 0, 0);
        Check.due("of one that is hidden", 9, x.sheetIs(0, 7));
        Check.due("of its copy 0", 0, x.sheetIs(1, 7));
        Check.due("of its copy 1", 0, x.sheetIs(2, 7));
        Check.due("of one written", 0, x.sheetIs(3, 7));
    }

    private static void hoursAsToldByHiding() {
        ThinSheets x = Setting.written();
        x.write(0, 0, 0);
        for (int hours = 0; hours <= 9; hours++) {
            Check.due("took", hours == 0 ? 0 : hours - 1, x.hide(0, hours));
            Check.due("takes", hours, x.sheetIs(0, 7));
            Check.due("took, told again", hours, x.hide(0, hours));
        }
        Check.due("took at last", 9, x.hide(0, 0));
        Check.due("another one", 0, x.sheetIs(1, 7));
    }

    private static void hoursAsItComes() {
        ThinSheets x = Setting.written();
        x.meet(0, 1);
        x.hide(0, 9);
        x.give(0, 1);
        Check.due("given", 0, x.sheetIs(0, 7));
        x.hide(0, 1);
        x.give(0, 0);
        Check.due("given back", 0, x.sheetIs(0, 7));
        x.hide(0, 5);
        x.pass(30);
        x.meet(0, 2);
        Check.due("not by nights, and not by meeting", 5, x.sheetIs(0, 7));
    }

    // Promise 15

    private static void whoHadWithNobody() {
        ThinSheets x = new ThinSheets();
        for (int text = 0; text < 3; text++) {
            Check.due("no sheet", 0, x.whoHad(text, 11, 11));
            Check.due("no blank", 0, x.whoHad(text, 0, BLANK));
            Check.due("nothing omitted", 0, x.whoHad(text, 0, OMITTED));
        }
        x.lend(0, 9);
        x.write(1, 9, 0);
        Check.due("the text ahead", 0, x.whoHad(0, 11, 11));
        Check.due("the text", 1 << 9, x.whoHad(1, 11, 11));
        Check.due("the text behind", 0, x.whoHad(2, 11, 11));
        Check.due("another word", 0, x.whoHad(1, 11, 10));
    }

    private static void whoHadByReadings() {
        ThinSheets x = Setting.written();
        for (int person = 1; person < 5; person++) {
            x.meet(0, person);
        }
        x.slip(0, ThinSheets.LEAP, 0);
        x.type(0, 0, 1);
        x.slip(0, ThinSheets.WORD, 99);
        x.type(0, 0, 4);
        x.give(1, 1);
        x.give(2, 2);
        x.give(5, 3);
        x.give(0, 4);
        Check.due("the word 0", Setting.setOf(0, 4), x.whoHad(0, 0, 0));
        Check.due("the word 99", Setting.setOf(0, 2), x.whoHad(0, 0, 99));
        Check.due("a blank", Setting.setOf(0, 3), x.whoHad(0, 0, BLANK));
        Check.due("omitted", Setting.setOf(0, 1), x.whoHad(0, 0, OMITTED));
        Check.due("what all have", Setting.setOf(0, 1, 2, 3, 4), x.whoHad(0, 1, 1));
        Check.due("a word that none has", 0, x.whoHad(0, 0, 98));
    }

    private static void whoHadByAll() {
        ThinSheets x = new ThinSheets();
        for (int person = 0; person < PEOPLE; person++) {
            x.lend(0, person);
            x.write(2, person, 0);
            Check.due("who wrote one", (2 << person) - 1, x.whoHad(2, 11, 11));
        }
    }

    private static void whoHadTwice() {
        ThinSheets x = Setting.written();
        x.meet(0, 1);
        x.give(0, 1);
        Check.due("had by two", 3, x.whoHad(0, 5, 5));
        x.give(0, 0);
        Check.due("had again by the first", 3, x.whoHad(0, 5, 5));
        x.give(0, 1);
        Check.due("had again by the second", 3, x.whoHad(0, 5, 5));
        x.write(0, 0, 0);
        Check.due("had by the first, another sheet", 3, x.whoHad(0, 5, 5));
        x.write(1, 0, 0);
        Check.due("of another text, who had that alone", 1, x.whoHad(1, 5, 5));
    }

    private static void whoHadForEver() {
        ThinSheets x = Setting.written();
        x.meet(0, 1);
        x.write(0, 0, 0);
        x.give(0, 1);
        x.burn(0);
        Check.due("burned", 3, x.whoHad(0, 5, 5));
        Setting.makeKnown(x, 0, 9);
        x.arrest(0);
        Check.due("seized; the police are nobody", 3, x.whoHad(0, 5, 5));
        x.amnesty();
        Check.due("behind an amnesty", 3, x.whoHad(0, 5, 5));
    }

    // "There are the machines 0 to 3, with nobody at first; they are lent from one to another."

    private static void machinesWithNobodyAtFirst() {
        ThinSheets x = new ThinSheets();
        for (int number = 0; number < 4; number++) {
            int machine = number;
            Check.noState("file at first", () -> x.file(machine));
            Check.noState("write at first", () -> x.write(0, 0, machine));
            Check.due("lend at first", NONE, x.lend(machine, 9 - machine));
            Check.due("file then, for the first time", NONE, x.file(machine));
        }
    }

    private static void machinesLent() {
        ThinSheets x = new ThinSheets();
        for (int person = 0; person < PEOPLE; person++) {
            Check.due("with whom it was", person - 1, x.lend(3, person));
            Check.due("lent to oneself", person, x.lend(3, person));
        }
        Check.due("nobody has to be known", 0, x.knows(9));
        Check.due("another machine is with nobody", NONE, x.lend(2, 9));
    }

    private static void machinesOfOne() {
        ThinSheets x = new ThinSheets();
        for (int machine = 0; machine < 4; machine++) {
            Check.due("lend all to one", NONE, x.lend(machine, 9));
        }
        for (int machine = 0; machine < 4; machine++) {
            Check.due("write with each", machine, x.write(0, 9, machine));
            Check.due("its machine", machine, x.sheetIs(machine, 4));
        }
        Check.due("lend one of them", 9, x.lend(2, 0));
        Check.noState("without that one", () -> x.write(0, 9, 2));
        Check.due("with the others", 4, x.write(0, 9, 3));
    }

    private static void machinesSeizedForGood() {
        ThinSheets x = Setting.written();
        Setting.makeKnown(x, 0, 9);
        x.search(0, 5);
        x.amnesty();
        x.pass(30);
        for (int person = 0; person < PEOPLE; person++) {
            int to = person;
            Check.noState("lend what was seized", () -> x.lend(0, to));
            Check.noState("write with what was seized", () -> x.write(0, to, 0));
        }
        Check.noState("file what was seized", () -> x.file(0));
        Check.due("its machine, of what was seized", 0, x.sheetIs(0, 4));
        Check.due("another machine", NONE, x.lend(1, 0));
    }

    // "Who types has to be free, and have a machine."

    private static void whoTypesHasAMachine() {
        ThinSheets x = Setting.written();
        x.meet(0, 1);
        x.give(0, 1);
        Check.noState("the machine is with the one who had the sheet", () -> x.type(0, 0, 1));
        x.lend(1, 1);
        Check.noState("with another machine than one's own", () -> x.type(0, 0, 1));
        Check.due("with one's own", 1, x.type(0, 1, 1));
        x.lend(1, 0);
        Check.noState("when it is lent", () -> x.type(0, 1, 1));
    }

    // "its letters are noted with whom it is then, in place of what was noted"

    private static void filedWithWhomItIsThen() {
        ThinSheets x = new ThinSheets();
        x.lend(0, 9);
        Check.due("filed first", NONE, x.file(0));
        x.lend(0, 0);
        Check.due("noted with whom it was then", 9, x.file(0));
        x.lend(0, 5);
        x.lend(0, 6);
        Check.due("noted with whom it was then, not by lending", 0, x.file(0));
        Check.due("noted with whom it is", 6, x.file(0));
        x.burn(written(x, 6));
        Check.due("noted by no writing", 6, x.file(0));
    }

    private static int written(ThinSheets x, int person) {
        return x.write(0, person, 0);
    }

    private static void filedInPlaceOfWhatWasNoted() {
        ThinSheets x = Setting.written();
        x.lend(0, 1);
        x.file(0);
        x.lend(0, 2);
        x.file(0);
        x.informer(0);
        Check.due("noted last", true, x.isKnown(2));
        Check.due("noted before", false, x.isKnown(1));
        Check.due("never noted", false, x.isKnown(0));
    }

    private static void filedApart() {
        ThinSheets x = new ThinSheets();
        for (int machine = 0; machine < 4; machine++) {
            x.lend(machine, machine);
            Check.due("each has its own note", NONE, x.file(machine));
        }
        for (int machine = 0; machine < 4; machine++) {
            Check.due("each has its own note then", machine, x.file(machine));
        }
    }
}
