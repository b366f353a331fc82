/**
 * Each IllegalStateException by each of its causes alone, beside the nearest call that is allowed;
 * then "if several apply, the one that it lists first is thrown"; and of each that "a call that
 * throws changes nothing".
 */
public final class RefusalsTest {

    private static final int NONE = ThinSheets.NONE;

    private RefusalsTest() {
    }

    public static void main(String[] args) {
        ordinaryStory();
        otherStories();
        word();
        write();
        writeWithoutRoom();
        type();
        typeWithoutRoom();
        meet();
        give();
        hide();
        burn();
        lend();
        file();
        informer();
        arrest();
        search();
        pass();
        line();
        orderOfTexts();
        orderOfSheets();
        orderOfPeople();
        orderOfMachines();
        orderOfPolice();
        orderOfLines();
        Check.end();
    }

    private static Object burned(ThinSheets x, int sheet) {
        x.burn(sheet);
        return 0;
    }

    /** What is refused below is refused for the cause that is told only if the story is as told. */
    private static void ordinaryStory() {
        ThinSheets x = Story.ORDINARY.made();
        int[] with = {0, 1, 3, NONE, 0, 0, 1, 3, NONE};
        for (int sheet = 0; sheet < with.length; sheet++) {
            Check.due("story: with whom is " + sheet, with[sheet], x.sheetIs(sheet, 5));
            Check.due("story: seized " + sheet, sheet == 8, x.sheetIs(sheet, 6) == 1);
            Check.due("story: text of " + sheet, sheet < 7 ? 0 : 1, x.sheetIs(sheet, 0));
        }
        Check.noIndex("story: a sheet 9", () -> x.reading(9, 0));
        for (int person = 0; person < 10; person++) {
            boolean known = person <= 1 || person == 3 || person == 4 || person == 6;
            Check.due("story: known " + person, known, x.isKnown(person));
        }
        Check.due("story: slips", 4, x.slip(11, ThinSheets.LEAP, 0));
        Check.due("story: the machine 0", 0, x.lend(0, 0));
        Check.due("story: noted for the machine 1", 3, x.file(1));
        Check.noState("story: the machine 2", () -> x.lend(2, 0));
        Check.due("story: the machine 3", NONE, x.lend(3, 9));
        Check.due("story: arrested", 2, x.amnesty());
        Check.due("story: the machine 1", 3, x.lend(1, 6));
        Check.noState("story: the informer", () -> x.informer(5));
        Check.noState("story: closed", () -> x.line(0, 0));
        Check.due("story: lines", 8, x.open());
        Check.due("story: the night behind", 5, x.pass(1));
    }

    private static void otherStories() {
        ThinSheets crowded = Story.CROWDED.made();
        Check.due("crowded: the last one is burned", NONE, crowded.sheetIs(36, 5));
        Check.noIndex("crowded: a sheet 37", () -> crowded.reading(37, 0));
        Check.due("crowded: slips", 2, crowded.slip(0, ThinSheets.LEAP, 0));
        ThinSheets full = Story.FULL.made();
        Check.due("full: the last one", 0, full.sheetIs(39, 5));
        Check.due("full: slips", 2, full.slip(0, ThinSheets.LEAP, 0));
        ThinSheets late = Story.LATE.made();
        Check.due("late: the night behind", 981, late.pass(1));
        Check.due("late: opened by then", true, late.isKnown(1));
    }

    // Promise 2: there are sheets of the text

    private static void word() {
        Story.ORDINARY.noState("word of a text with sheets", x -> x.word(0, 0, 5));
        Story.ORDINARY.noState("word of another text with sheets", x -> x.word(1, 11, 99));
        Story.ORDINARY.noState("word as it is", x -> x.word(0, 4, 4));
        Story.FULL.noState("word of the text of 40 sheets", x -> x.word(0, 0, 0));
        ThinSheets x = Story.ORDINARY.made();
        Check.due("word of a text without sheets", 99, x.word(2, 11, 5));

        ThinSheets y = Setting.written();
        y.burn(0);
        Check.noState("word of a text of which one is burned", () -> y.word(0, 0, 5));
        y.write(0, 0, 0);
        Check.due("word as it was", 0, y.reading(1, 0));
        Check.due("word of a text without any", 0, y.word(1, 0, 5));
    }

    // Promise 3: the person is not free, the machine is not with the person, or there are 40

    private static void write() {
        Story.ORDINARY.noState("write by one who is arrested", x -> x.write(0, 3, 1));
        Story.ORDINARY.noState("write with another's machine", x -> x.write(0, 1, 0));
        Story.ORDINARY.noState("write with a machine that is with nobody", x -> x.write(0, 0, 3));
        Story.ORDINARY.noState("write with a machine that was seized", x -> x.write(0, 4, 2));
        Story.ORDINARY.noState("write with the machine of one arrested", x -> x.write(0, 0, 1));
        Story.NEW.noState("write where nothing is lent", x -> x.write(0, 0, 0));
        ThinSheets x = Story.ORDINARY.made();
        Check.due("write with one's own machine", 9, x.write(2, 0, 0));
        x.lend(3, 1);
        Check.due("write with what was lent", 10, x.write(2, 1, 3));
        x.amnesty();
        Check.due("write by one who is freed", 11, x.write(2, 3, 1));
    }

    private static void writeWithoutRoom() {
        Story.FULL.noState("write a sheet 40", x -> x.write(0, 0, 0));
        Story.FULL.noState("write a sheet 40 of a text without any", x -> x.write(2, 0, 0));
        ThinSheets x = Story.CROWDED.made();
        Check.due("write the sheet 37", 37, x.write(0, 0, 0));
        Check.due("write the sheet 38", 38, x.write(1, 0, 0));
        Check.due("write the sheet 39", 39, x.write(2, 0, 0));
        Check.noState("write behind the sheet 39", () -> x.write(2, 0, 0));
        x.burn(39);
        Check.noState("write in place of a burned one", () -> x.write(2, 0, 0));
        Check.due("batch of the last", 9, x.sheetIs(39, 1));
    }

    // Promise 5: burned or seized, not free, the machine not with the person, or more than 40

    private static void type() {
        Story.ORDINARY.noState("type of a burned one", x -> x.type(3, 0, 1));
        Story.ORDINARY.noState("type of a seized one", x -> x.type(8, 0, 1));
        Story.ORDINARY.noState("type of a burned one with nobody's machine", x -> x.type(3, 3, 1));
        Story.ORDINARY.noState("type of a seized one with a seized machine", x -> x.type(8, 2, 1));
        Story.ORDINARY.noState("type by one who is arrested", x -> x.type(2, 1, 1));
        Story.ORDINARY.noState("type with another's machine", x -> x.type(1, 0, 1));
        Story.ORDINARY.noState("type with nobody's machine", x -> x.type(0, 3, 1));
        Story.ORDINARY.noState("type with a seized machine", x -> x.type(0, 2, 1));
        Story.ORDINARY.noState("type with an arrested one's machine", x -> x.type(0, 1, 6));
        ThinSheets x = Story.ORDINARY.made();
        Check.due("type with one's own machine", 9, x.type(0, 0, 1));
        x.lend(0, 1);
        Check.due("type by another", 10, x.type(1, 0, 6));
        x.amnesty();
        Check.due("type by one who is freed", 16, x.type(2, 1, 1));
        Check.due("no batch of what was refused", 6, x.sheetIs(16, 1));
    }

    private static void typeWithoutRoom() {
        Story.CROWDED.noState("type 4 behind 37", x -> x.type(0, 0, 4));
        Story.CROWDED.noState("type 6 behind 37", x -> x.type(0, 0, 6));
        Story.FULL.noState("type 1 behind 40", x -> x.type(0, 0, 1));
        Story.FULL.noState("type 6 behind 40", x -> x.type(39, 0, 6));
        ThinSheets x = Story.CROWDED.made();
        Check.due("type 3 behind 37", 37, x.type(0, 0, 3));
        Check.due("type 3 behind 37, with the slip", 77, x.reading(39, 3));
        ThinSheets y = Story.CROWDED.made();
        y.write(0, 0, 0);
        y.write(0, 0, 0);
        Check.noState("type 2 behind 39", () -> y.type(0, 0, 2));
        Check.due("type 1 behind 39", 39, y.type(0, 0, 1));
        Check.due("type 1 behind 39, with the slip", 77, y.reading(39, 3));
        ThinSheets z = Setting.written();
        for (int sheet = 1; sheet < 34; sheet++) {
            z.write(0, 0, 0);
        }
        Check.due("type 6 behind 34", 34, z.type(0, 0, 6));
        Check.due("type 6 behind 34, the last", 5, z.sheetIs(39, 2));
    }

    // Promise 11: one is not free

    private static void meet() {
        Story.ORDINARY.noState("meet, the first is arrested", x -> x.meet(3, 9));
        Story.ORDINARY.noState("meet, the other is arrested", x -> x.meet(9, 3));
        Story.ORDINARY.noState("meet, both are arrested", x -> x.meet(3, 6));
        Story.ORDINARY.noState("meet, both are arrested, anew", x -> x.meet(6, 3));
        Story.ORDINARY.noState("meet whom one knows", x -> x.meet(0, 3));
        Story.ORDINARY.noState("meet an informer, arrested", x -> x.meet(6, 5));
        ThinSheets x = Story.ORDINARY.made();
        Check.due("meet, both are free", true, x.meet(9, 8));
        x.amnesty();
        Check.due("meet, both are freed", true, x.meet(3, 6));
    }

    // Promise 12: burned or seized, one of both is not free, or they do not know each other

    private static void give() {
        Story.ORDINARY.noState("give a burned one", x -> x.give(3, 1));
        Story.ORDINARY.noState("give a seized one", x -> x.give(8, 3));
        Story.ORDINARY.noState("give a seized one to who is free", x -> x.give(8, 5));
        Story.ORDINARY.noState("give by one who is arrested", x -> x.give(2, 0));
        Story.ORDINARY.noState("give to one who is arrested", x -> x.give(0, 3));
        Story.ORDINARY.noState("give to one who is not known", x -> x.give(0, 4));
        Story.ORDINARY.noState("give to one who knows nobody", x -> x.give(0, 9));
        Story.ORDINARY.noState("give to whom the next one knows", x -> x.give(0, 5));
        Story.ORDINARY.noState("give to oneself", x -> x.give(0, 0));
        Story.ORDINARY.noState("give to oneself what is hidden", x -> x.give(1, 1));
        ThinSheets x = Story.ORDINARY.made();
        Check.due("give to whom one knows", 0, x.give(0, 1));
        x.amnesty();
        Check.due("give by one who is freed", 3, x.give(2, 0));
        Check.due("give to one who is freed", 0, x.give(4, 3));
    }

    // Promise 13: burned or seized, or the person is not free

    private static void hide() {
        Story.ORDINARY.noState("hide a burned one", x -> x.hide(3, 5));
        Story.ORDINARY.noState("hide a seized one", x -> x.hide(8, 5));
        Story.ORDINARY.noState("hide by one who is arrested", x -> x.hide(2, 5));
        Story.ORDINARY.noState("hide by one who is arrested, for 0", x -> x.hide(7, 0));
        ThinSheets x = Story.ORDINARY.made();
        Check.due("hide", 2, x.hide(1, 5));
        x.amnesty();
        Check.due("hide by one who is freed", 6, x.hide(7, 0));
    }

    // Promise 14: burned or seized, or the person is not free

    private static void burn() {
        Story.ORDINARY.noState("burn a burned one", x -> burned(x, 3));
        Story.ORDINARY.noState("burn a seized one", x -> burned(x, 8));
        Story.ORDINARY.noState("burn by one who is arrested", x -> burned(x, 2));
        ThinSheets x = Story.ORDINARY.made();
        x.burn(1);
        Check.due("burn", NONE, x.sheetIs(1, 5));
        x.amnesty();
        x.burn(2);
        Check.due("burn by one who is freed", NONE, x.sheetIs(2, 5));
    }

    // Promise 17: it was seized, or the person, or the one with whom it is, is not free

    private static void lend() {
        Story.ORDINARY.noState("lend what was seized", x -> x.lend(2, 0));
        Story.ORDINARY.noState("lend what was seized to whom it was with", x -> x.lend(2, 4));
        Story.ORDINARY.noState("lend to one who is arrested", x -> x.lend(0, 6));
        Story.ORDINARY.noState("lend what nobody has to one arrested", x -> x.lend(3, 3));
        Story.ORDINARY.noState("lend by one who is arrested", x -> x.lend(1, 0));
        Story.ORDINARY.noState("lend by one arrested to himself", x -> x.lend(1, 3));
        ThinSheets x = Story.ORDINARY.made();
        Check.due("lend what nobody has", NONE, x.lend(3, 9));
        Check.due("lend to whom one does not know", 9, x.lend(3, 7));
        Check.due("lend to oneself", 7, x.lend(3, 7));
        x.amnesty();
        Check.due("lend by one who is freed", 3, x.lend(1, 6));
        Check.noState("lend what was seized, behind an amnesty", () -> x.lend(2, 4));
    }

    // Promise 18: it is with nobody

    private static void file() {
        Story.ORDINARY.noState("file what nobody has had", x -> x.file(3));
        Story.ORDINARY.noState("file what was seized", x -> x.file(2));
        Story.NEW.noState("file where nothing is lent", x -> x.file(0));
        ThinSheets x = Story.ORDINARY.made();
        Check.due("file what is with one who is free", 0, x.file(0));
        Check.due("file what is with one who is arrested", 3, x.file(1));
        x.lend(3, 9);
        Check.due("file what is lent", NONE, x.file(3));
    }

    // Promise 19: the person is one, or not free

    private static void informer() {
        Story.ORDINARY.noState("informer who is one", x -> x.informer(5));
        Story.ORDINARY.noState("informer who is arrested", x -> x.informer(3));
        Story.ORDINARY.noState("informer who is arrested too", x -> x.informer(6));
        ThinSheets x = Story.ORDINARY.made();
        Check.due("informer who is free", 0, x.informer(9));
        Check.due("informer who is known: 5 is told", 1, x.informer(4));
        x.amnesty();
        Check.due("informer who is freed: 8 is told", 1, x.informer(3));
        x.informer(6);
        x.arrest(6);
        Check.noState("informer who is one, and arrested", () -> x.informer(6));
    }

    // Promise 21: the person is not free, or not known

    private static void arrest() {
        Story.ORDINARY.noState("arrest of one who is arrested", x -> x.arrest(3));
        Story.ORDINARY.noState("arrest of one without sheets, arrested", x -> x.arrest(6));
        Story.ORDINARY.noState("arrest of one who is not known", x -> x.arrest(9));
        Story.ORDINARY.noState("arrest of an informer who is not known", x -> x.arrest(5));
        Story.NEW.noState("arrest where nobody is known", x -> x.arrest(0));
        ThinSheets x = Story.ORDINARY.made();
        Check.due("arrest of one who is free, and known", 3, x.arrest(0));
        x.amnesty();
        Check.due("arrest of one who is freed", 0, x.arrest(3));
        x.meet(5, 9);
        Check.due("arrest of one who is known by now", 0, x.arrest(9));
    }

    // Promise 22: the person is not known

    private static void search() {
        Story.ORDINARY.noState("search of one who is not known", x -> x.search(9, 0));
        Story.ORDINARY.noState("search of an informer who is not known", x -> x.search(5, 9));
        Story.NEW.noState("search where nobody is known", x -> x.search(0, 9));
        ThinSheets x = Story.ORDINARY.made();
        Check.due("search of one who is known", 3, x.search(0, 9));
        Check.due("search of one who is arrested", 2, x.search(3, 9));
        Check.due("search of one with nothing", 0, x.search(6, 9));
    }

    // Promise 27: it would be above 999

    private static void pass() {
        Story.LATE.noState("pass to the night 1000", x -> x.pass(20));
        Story.LATE.noState("pass to the night 1001", x -> x.pass(21));
        Story.LATE.noState("pass to the night 1010", x -> x.pass(30));
        ThinSheets x = Story.LATE.made();
        Check.due("pass to the night 999", 999, x.pass(19));
        Check.noState("pass from the night 999", () -> x.pass(1));
        Check.noState("pass from the night 999, as far as it goes", () -> x.pass(30));
        ThinSheets y = Story.LATE.made();
        Check.due("pass to the night 998", 998, y.pass(18));
        Check.noState("pass from the night 998 by 2", () -> y.pass(2));
        Check.due("pass from the night 998 by 1", 999, y.pass(1));
    }

    // Promise 30: the archive is closed

    private static void line() {
        for (int what = 0; what < 4; what++) {
            int asked = what;
            Story.ORDINARY.noState("line of a closed archive, " + what, x -> x.line(0, asked));
            Story.ORDINARY.noState("the last line of it, " + what, x -> x.line(7, asked));
        }
        ThinSheets x = Story.OPEN.made();
        Check.due("line of an open archive", 0, x.line(0, 0));
    }

    // The order of what is thrown

    private static void orderOfTexts() {
        Story.ORDINARY.noIndex("word: text, word and sheets", x -> x.word(3, 0, 100));
        Story.ORDINARY.noIndex("word: place and word", x -> x.word(2, 12, 100));
        Story.ORDINARY.noIndex("word: place and sheets", x -> x.word(0, -1, 5));
        Story.ORDINARY.noIndex("word: place, word and sheets", x -> x.word(0, -1, -1));
        Story.ORDINARY.noArgument("word: word and sheets", x -> x.word(0, 0, 100));
        Story.ORDINARY.noArgument("word: small word and sheets", x -> x.word(1, 0, -1));
        Story.ORDINARY.noIndex("write: text and arrested", x -> x.write(3, 3, 1));
        Story.ORDINARY.noIndex("write: text and another's machine", x -> x.write(-1, 1, 0));
        Story.ORDINARY.noIndex("write: machine and arrested", x -> x.write(0, 3, 4));
        Story.ORDINARY.noIndex("write: person and nobody's machine", x -> x.write(0, -1, 3));
        Story.ORDINARY.noIndex("write: all three", x -> x.write(3, 10, 4));
        Story.FULL.noIndex("write: text and 40", x -> x.write(3, 0, 0));
        Story.FULL.noIndex("write: person and 40", x -> x.write(0, 10, 0));
        Story.FULL.noIndex("write: machine and 40", x -> x.write(0, 0, -1));
        Story.ORDINARY.noIndex("slip: place and kind", x -> x.slip(12, 3, 0));
        Story.ORDINARY.noIndex("slip: place and word", x -> x.slip(-1, ThinSheets.WORD, 100));
        Story.ORDINARY.noIndex("slip: place and leap", x -> x.slip(12, ThinSheets.LEAP, 1));
        Story.ORDINARY.noArgument("slip: kind and word", x -> x.slip(0, 3, 100));
        Story.ORDINARY.noIndex("restored: both", x -> x.restored(3, 12));
        Story.ORDINARY.noIndex("whoHad: text and reading", x -> x.whoHad(3, 0, 100));
        Story.ORDINARY.noIndex("whoHad: place and reading", x -> x.whoHad(0, 12, -3));
    }

    private static void orderOfSheets() {
        Story.ORDINARY.noIndex("type: sheet and copies", x -> x.type(9, 0, 7));
        Story.ORDINARY.noIndex("type: machine and copies", x -> x.type(0, 4, 0));
        Story.ORDINARY.noIndex("type: machine and burned", x -> x.type(3, 4, 1));
        Story.ORDINARY.noIndex("type: machine and arrested", x -> x.type(2, -1, 1));
        Story.ORDINARY.noIndex("type: machine, copies and seized", x -> x.type(8, 4, 7));
        Story.ORDINARY.noArgument("type: copies and burned", x -> x.type(3, 0, 0));
        Story.ORDINARY.noArgument("type: copies and seized", x -> x.type(8, 0, 7));
        Story.ORDINARY.noArgument("type: copies and arrested", x -> x.type(2, 1, 7));
        Story.ORDINARY.noArgument("type: copies and nobody's machine", x -> x.type(0, 3, 0));
        Story.FULL.noArgument("type: copies and 40", x -> x.type(0, 0, 7));
        Story.FULL.noArgument("type: no copies and 40", x -> x.type(0, 0, 0));
        Story.FULL.noArgument("type: very many copies and 40",
                x -> x.type(0, 0, Integer.MAX_VALUE));
        Story.FULL.noIndex("type: machine and 40", x -> x.type(0, 4, 6));
        Story.ORDINARY.noIndex("unlikely: no other, of another text", x -> x.unlikely(7, 9));
        Story.ORDINARY.noIndex("unlikely: neither", x -> x.unlikely(9, -1));
        Story.ORDINARY.noIndex("reading: both", x -> x.reading(9, 12));
        Story.ORDINARY.noIndex("sheetIs: both", x -> x.sheetIs(9, 8));
        Story.ORDINARY.noIndex("sheetIs: both, below", x -> x.sheetIs(-1, -1));
        Story.ORDINARY.noIndex("hide: sheet and hours", x -> x.hide(9, 10));
        Story.ORDINARY.noArgument("hide: hours and burned", x -> x.hide(3, 10));
        Story.ORDINARY.noArgument("hide: hours and seized", x -> x.hide(8, -1));
        Story.ORDINARY.noArgument("hide: hours and arrested", x -> x.hide(2, 10));
    }

    private static void orderOfPeople() {
        Story.ORDINARY.noIndex("meet: nobody twice", x -> x.meet(10, 10));
        Story.ORDINARY.noIndex("meet: nobody twice, below", x -> x.meet(-1, -1));
        Story.ORDINARY.noIndex("meet: nobody and arrested", x -> x.meet(10, 3));
        Story.ORDINARY.noIndex("meet: arrested and nobody", x -> x.meet(3, -1));
        Story.ORDINARY.noArgument("meet: the same, arrested", x -> x.meet(3, 3));
        Story.ORDINARY.noArgument("meet: the same, arrested too", x -> x.meet(6, 6));
        Story.ORDINARY.noIndex("give: person and burned", x -> x.give(3, 10));
        Story.ORDINARY.noIndex("give: person and seized", x -> x.give(8, -1));
        Story.ORDINARY.noIndex("give: person and arrested", x -> x.give(2, 10));
        Story.ORDINARY.noIndex("give: sheet and arrested", x -> x.give(9, 3));
        Story.ORDINARY.noIndex("give: both", x -> x.give(-1, -1));
    }

    private static void orderOfMachines() {
        Story.ORDINARY.noIndex("lend: person and seized", x -> x.lend(2, 10));
        Story.ORDINARY.noIndex("lend: person and arrested", x -> x.lend(1, -1));
        Story.ORDINARY.noIndex("lend: machine and arrested", x -> x.lend(4, 3));
        Story.ORDINARY.noIndex("lend: both", x -> x.lend(-1, 10));
    }

    private static void orderOfPolice() {
        Story.ORDINARY.noIndex("strong: both", x -> x.strong(10, 10));
        Story.ORDINARY.noIndex("strong: both, below", x -> x.strong(-1, -1));
        Story.ORDINARY.noIndex("search: person and hours", x -> x.search(10, 10));
        Story.ORDINARY.noIndex("search: person and hours, below", x -> x.search(-1, -1));
        Story.ORDINARY.noArgument("search: hours and not known", x -> x.search(9, 10));
        Story.ORDINARY.noArgument("search: small hours and not known", x -> x.search(9, -1));
        Story.ORDINARY.noIndex("risk: both", x -> x.risk(10, 31));
        Story.ORDINARY.noIndex("risk: both, below", x -> x.risk(-1, -1));
        Story.LATE.noArgument("pass: 31, above 999", x -> x.pass(31));
        Story.LATE.noArgument("pass: very many, above 999", x -> x.pass(Integer.MAX_VALUE));
        ThinSheets x = Story.LATE.made();
        x.pass(19);
        Check.noArgument("pass: 31, at 999", () -> x.pass(31));
        Check.noArgument("pass: 0, at 999", () -> x.pass(0));
    }

    private static void orderOfLines() {
        Story.ORDINARY.noIndex("line: line, what and closed", x -> x.line(8, 4));
        Story.ORDINARY.noIndex("line: line and closed", x -> x.line(8, 0));
        Story.ORDINARY.noIndex("line: line below and closed", x -> x.line(-1, 3));
        Story.ORDINARY.noArgument("line: what and closed", x -> x.line(7, 4));
        Story.ORDINARY.noArgument("line: what below and closed", x -> x.line(0, -1));
        Story.OPEN.noIndex("line: line and what", x -> x.line(8, -1));
        Story.NEW.noIndex("line: no line at all, what and closed", x -> x.line(0, 4));
    }
}
