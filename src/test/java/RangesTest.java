/**
 * "A method throws IndexOutOfBoundsException if there is no such text, place, sheet, person,
 * machine or line, IllegalArgumentException if another argument is out of range", and "a call that
 * throws changes nothing": each argument of each call, just outside of its range, far outside and
 * as the largest and the smallest int, while the other arguments are as they have to be; then with
 * the least and the greatest value that is in range.
 */
public final class RangesTest {

    private static final int TEXTS = 3;
    private static final int PLACES = 12;
    private static final int PEOPLE = 10;
    private static final int MACHINES = 4;
    /** How many sheets there are in the ordinary story, and how many lines. */
    private static final int SHEETS = 9;
    private static final int LINES = 8;

    private static final int WORD = ThinSheets.WORD;
    private static final int LEAP = ThinSheets.LEAP;
    private static final int GUESS = ThinSheets.GUESS;

    private RangesTest() {
    }

    public static void main(String[] args) {
        word();
        write();
        slip();
        type();
        reading();
        unlikely();
        likeliest();
        restored();
        sheetIs();
        meet();
        give();
        hide();
        burn();
        whoHad();
        knows();
        lend();
        file();
        informer();
        strong();
        arrest();
        search();
        isKnown();
        risk();
        pass();
        life();
        line();
        sheetsOfNothing();
        sheetsOfAll();
        Check.end();
    }

    private static Object burned(ThinSheets x, int sheet) {
        x.burn(sheet);
        return 0;
    }

    private static Object lived(ThinSheets x, int person) {
        x.life(person, false, true);
        return 0;
    }

    // Promise 2

    private static void word() {
        Story.ORDINARY.noIndexBeside("word, text", TEXTS, (x, v) -> x.word(v, 0, 5));
        Story.ORDINARY.noIndexBeside("word, place", PLACES, (x, v) -> x.word(2, v, 5));
        Story.ORDINARY.noArgumentBeside("word, word", 0, 99, (x, v) -> x.word(2, 0, v));
        ThinSheets x = new ThinSheets();
        Check.due("word, the least of each", 0, x.word(0, 0, 0));
        Check.due("word, the greatest of each", 11, x.word(2, 11, 99));
        Check.due("word, the greatest is kept", 99, x.word(2, 11, 0));
        Check.due("word, the least is kept", 0, x.word(2, 11, 1));
    }

    // Promise 3

    private static void write() {
        Story.ORDINARY.noIndexBeside("write, text", TEXTS, (x, v) -> x.write(v, 0, 0));
        Story.ORDINARY.noIndexBeside("write, person", PEOPLE, (x, v) -> x.write(0, v, 0));
        Story.ORDINARY.noIndexBeside("write, machine", MACHINES, (x, v) -> x.write(0, 0, v));
        ThinSheets x = new ThinSheets();
        x.lend(0, 0);
        x.lend(3, 9);
        Check.due("write, the least of each", 0, x.write(0, 0, 0));
        Check.due("write, the greatest of each", 1, x.write(2, 9, 3));
        Check.due("write, the least text", 0, x.sheetIs(0, 0));
        Check.due("write, the greatest text", 2, x.sheetIs(1, 0));
        Check.due("write, the greatest machine", 3, x.sheetIs(1, 4));
        Check.due("write, the greatest person", 9, x.sheetIs(1, 5));
    }

    // Promise 4

    private static void slip() {
        Story.ORDINARY.noIndexBeside("slip, place", PLACES, (x, v) -> x.slip(v, LEAP, 0));
        Story.ORDINARY.noArgumentBeside("slip, kind", WORD, GUESS, (x, v) -> x.slip(5, v, 0));
        Story.ORDINARY.noArgumentBeside("slip, word of a WORD", 0, 99, (x, v) -> x.slip(5, WORD, v));
        Story.ORDINARY.noArgumentBeside("slip, word of a GUESS", 0, 99,
                (x, v) -> x.slip(5, GUESS, v));
        Story.ORDINARY.noArgumentBeside("slip, word of a LEAP", 0, 0, (x, v) -> x.slip(5, LEAP, v));
        Story.ORDINARY.noArgument("slip, a LEAP of the word 99", x -> x.slip(5, LEAP, 99));
        Story.ORDINARY.noArgumentBeside("slip, kind where one is told", WORD, GUESS,
                (x, v) -> x.slip(1, v, 0));
        Story.ORDINARY.noArgumentBeside("slip, word where one is told", 0, 99,
                (x, v) -> x.slip(1, WORD, v));
        ThinSheets x = new ThinSheets();
        Check.due("slip, the least of each", 1, x.slip(0, WORD, 0));
        Check.due("slip, the greatest of each", 2, x.slip(11, GUESS, 99));
        Check.due("slip, a WORD of the greatest", 3, x.slip(1, WORD, 99));
        Check.due("slip, a GUESS of the least", 4, x.slip(2, GUESS, 0));
        Check.due("slip, a LEAP", 5, x.slip(3, LEAP, 0));
    }

    // Promise 5

    private static void type() {
        Story.ORDINARY.noIndexBeside("type, sheet", SHEETS, (x, v) -> x.type(v, 0, 1));
        Story.ORDINARY.noIndexBeside("type, machine", MACHINES, (x, v) -> x.type(0, v, 1));
        Story.ORDINARY.noArgumentBeside("type, copies", 1, 6, (x, v) -> x.type(0, 0, v));
        ThinSheets x = new ThinSheets();
        x.lend(0, 9);
        x.lend(3, 9);
        x.write(0, 9, 0);
        Check.due("type, the least of each", 1, x.type(0, 0, 1));
        Check.due("type, the greatest of each", 2, x.type(1, 3, 6));
        Check.due("type, one copy more", 8, x.type(7, 3, 1));
    }

    // Promise 6

    private static void reading() {
        Story.ORDINARY.noIndexBeside("reading, sheet", SHEETS, (x, v) -> x.reading(v, 0));
        Story.ORDINARY.noIndexBeside("reading, place", PLACES, (x, v) -> x.reading(0, v));
        ThinSheets x = Story.ORDINARY.made();
        Check.due("reading, the least of each", 0, x.reading(0, 0));
        Check.due("reading, the greatest of each", 11, x.reading(8, 11));
        Check.due("reading, the word of that text", 50, x.reading(8, 0));
    }

    // Promise 7

    private static void unlikely() {
        Story.ORDINARY.noIndexBeside("unlikely, sheet", SHEETS, (x, v) -> x.unlikely(v, 0));
        Story.ORDINARY.noIndexBeside("unlikely, other", SHEETS, (x, v) -> x.unlikely(0, v));
        Story.ORDINARY.noArgument("unlikely, texts 0 and 1", x -> x.unlikely(0, 7));
        Story.ORDINARY.noArgument("unlikely, texts 1 and 0", x -> x.unlikely(8, 6));
        ThinSheets x = Story.ORDINARY.made();
        Check.due("unlikely, the least of itself", 0, x.unlikely(0, 0));
        Check.due("unlikely, the greatest of itself", 0, x.unlikely(8, 8));
        Check.due("unlikely, the last ones", 0, x.unlikely(7, 8));
    }

    // Promise 8

    private static void likeliest() {
        Story.ORDINARY.noIndexBeside("likeliest", SHEETS, (x, v) -> x.likeliest(v));
        ThinSheets x = Story.ORDINARY.made();
        Check.due("likeliest, the least sheet", ThinSheets.NONE, x.likeliest(0));
        Check.due("likeliest, the greatest sheet", 7, x.likeliest(8));
    }

    // Promise 9

    private static void restored() {
        Story.ORDINARY.noIndexBeside("restored, text", TEXTS, (x, v) -> x.restored(v, 0));
        Story.ORDINARY.noIndexBeside("restored, place", PLACES, (x, v) -> x.restored(0, v));
        ThinSheets x = Story.ORDINARY.made();
        Check.due("restored, the least of each", 0, x.restored(0, 0));
        Check.due("restored, the greatest of each", ThinSheets.NONE, x.restored(2, 11));
        Check.due("restored, the greatest place", 11, x.restored(0, 11));
    }

    // Promise 10

    private static void sheetIs() {
        Story.ORDINARY.noIndexBeside("sheetIs, sheet", SHEETS, (x, v) -> x.sheetIs(v, 0));
        Story.ORDINARY.noArgumentBeside("sheetIs, what", 0, 7, (x, v) -> x.sheetIs(0, v));
        ThinSheets x = Story.ORDINARY.made();
        Check.due("sheetIs, the least of each", 0, x.sheetIs(0, 0));
        Check.due("sheetIs, the greatest what", 6, x.sheetIs(7, 7));
        Check.due("sheetIs, the greatest sheet", 1, x.sheetIs(8, 0));
    }

    // Promise 11

    private static void meet() {
        Story.ORDINARY.noIndexBeside("meet, person", PEOPLE, (x, v) -> x.meet(v, 0));
        Story.ORDINARY.noIndexBeside("meet, other", PEOPLE, (x, v) -> x.meet(5, v));
        for (int value = 0; value < PEOPLE; value++) {
            int person = value;
            Story.ORDINARY.noArgument("meet oneself " + value, x -> x.meet(person, person));
        }
        ThinSheets x = new ThinSheets();
        Check.due("meet, the least with the greatest", true, x.meet(0, 9));
        Check.due("meet, the greatest with another", true, x.meet(9, 8));
        Check.due("meet, the least with another", true, x.meet(1, 0));
    }

    // Promise 12

    private static void give() {
        Story.ORDINARY.noIndexBeside("give, sheet", SHEETS, (x, v) -> x.give(v, 1));
        Story.ORDINARY.noIndexBeside("give, person", PEOPLE, (x, v) -> x.give(0, v));
        ThinSheets x = new ThinSheets();
        x.lend(0, 0);
        x.write(0, 0, 0);
        x.meet(0, 9);
        Check.due("give to the greatest", 0, x.give(0, 9));
        Check.due("give to the least", 9, x.give(0, 0));
        x.write(0, 0, 0);
        Check.due("give the greatest sheet", 0, x.give(1, 9));
    }

    // Promise 13

    private static void hide() {
        Story.ORDINARY.noIndexBeside("hide, sheet", SHEETS, (x, v) -> x.hide(v, 1));
        Story.ORDINARY.noArgumentBeside("hide, hours", 0, 9, (x, v) -> x.hide(1, v));
        ThinSheets x = Story.ORDINARY.made();
        Check.due("hide, the least sheet for the most", 0, x.hide(0, 9));
        Check.due("hide, for the least", 9, x.hide(0, 0));
        Check.due("hide, the least is kept", 0, x.sheetIs(0, 7));
        Check.due("hide, the greatest that is left", 0, x.hide(6, 9));
        Check.due("hide, the most is kept", 9, x.sheetIs(6, 7));
    }

    // Promise 14

    private static void burn() {
        Story.ORDINARY.noIndexBeside("burn", SHEETS, (x, v) -> burned(x, v));
        ThinSheets x = Story.ORDINARY.made();
        x.burn(0);
        Check.due("burn, the least", ThinSheets.NONE, x.sheetIs(0, 5));
        x.burn(6);
        Check.due("burn, the greatest that is left", ThinSheets.NONE, x.sheetIs(6, 5));
    }

    // Promise 15

    private static void whoHad() {
        Story.ORDINARY.noIndexBeside("whoHad, text", TEXTS, (x, v) -> x.whoHad(v, 0, 0));
        Story.ORDINARY.noIndexBeside("whoHad, place", PLACES, (x, v) -> x.whoHad(0, v, 0));
        Story.ORDINARY.noArgumentBeside("whoHad, reading", ThinSheets.OMITTED, 99,
                (x, v) -> x.whoHad(0, 0, v));
        ThinSheets x = new ThinSheets();
        x.word(2, 11, 99);
        x.lend(0, 9);
        x.write(2, 9, 0);
        x.write(0, 9, 0);
        Check.due("whoHad, the least of text and place", 1 << 9, x.whoHad(0, 0, 0));
        Check.due("whoHad, the greatest of each", 1 << 9, x.whoHad(2, 11, 99));
        Check.due("whoHad, BLANK", 0, x.whoHad(0, 0, ThinSheets.BLANK));
        Check.due("whoHad, the least reading", 0, x.whoHad(0, 0, ThinSheets.OMITTED));
        x.slip(0, LEAP, 0);
        x.type(1, 0, 1);
        Check.due("whoHad, OMITTED", 1 << 9, x.whoHad(0, 0, ThinSheets.OMITTED));
    }

    // Promise 16

    private static void knows() {
        Story.ORDINARY.noIndexBeside("knows", PEOPLE, (x, v) -> x.knows(v));
        ThinSheets x = new ThinSheets();
        x.meet(0, 9);
        Check.due("knows, the least", 1 << 9, x.knows(0));
        Check.due("knows, the greatest", 1, x.knows(9));
    }

    // Promise 17

    private static void lend() {
        Story.ORDINARY.noIndexBeside("lend, machine", MACHINES, (x, v) -> x.lend(v, 0));
        Story.ORDINARY.noIndexBeside("lend, person", PEOPLE, (x, v) -> x.lend(0, v));
        ThinSheets x = new ThinSheets();
        Check.due("lend, the least of each", ThinSheets.NONE, x.lend(0, 0));
        Check.due("lend, the greatest of each", ThinSheets.NONE, x.lend(3, 9));
        Check.due("lend, it was with the least", 0, x.lend(0, 9));
        Check.due("lend, it was with the greatest", 9, x.lend(3, 0));
    }

    // Promise 18

    private static void file() {
        Story.ORDINARY.noIndexBeside("file", MACHINES, (x, v) -> x.file(v));
        ThinSheets x = new ThinSheets();
        x.lend(0, 0);
        x.lend(3, 9);
        Check.due("file, the least", ThinSheets.NONE, x.file(0));
        Check.due("file, the greatest", ThinSheets.NONE, x.file(3));
        Check.due("file, with the least", 0, x.file(0));
        Check.due("file, with the greatest", 9, x.file(3));
    }

    // Promise 19

    private static void informer() {
        Story.ORDINARY.noIndexBeside("informer", PEOPLE, (x, v) -> x.informer(v));
        ThinSheets x = new ThinSheets();
        x.meet(0, 9);
        Check.due("informer, the least", 1, x.informer(0));
        Check.due("informer, the greatest", 1, x.informer(9));
    }

    // Promise 20

    private static void strong() {
        Story.ORDINARY.noIndexBeside("strong, person", PEOPLE, (x, v) -> x.strong(v, 1));
        Story.ORDINARY.noArgumentBeside("strong, nights", 0, 9, (x, v) -> x.strong(3, v));
        ThinSheets x = new ThinSheets();
        Check.due("strong, the least of each", 3, x.strong(0, 0));
        Check.due("strong, the greatest of each", 3, x.strong(9, 9));
        Check.due("strong, the least is kept", 0, x.strong(0, 9));
        Check.due("strong, the greatest is kept", 9, x.strong(9, 0));
    }

    // Promise 21

    private static void arrest() {
        Story.ORDINARY.noIndexBeside("arrest", PEOPLE, (x, v) -> x.arrest(v));
        ThinSheets x = new ThinSheets();
        x.meet(0, 9);
        x.informer(0);
        x.informer(9);
        Check.due("arrest, the least", 0, x.arrest(0));
        Check.due("arrest, the greatest", 0, x.arrest(9));
        Check.due("arrest, both", 2, x.amnesty());
    }

    // Promise 22

    private static void search() {
        Story.ORDINARY.noIndexBeside("search, person", PEOPLE, (x, v) -> x.search(v, 9));
        Story.ORDINARY.noArgumentBeside("search, hours", 0, 9, (x, v) -> x.search(0, v));
        ThinSheets x = new ThinSheets();
        x.lend(0, 9);
        x.write(0, 9, 0);
        x.hide(0, 9);
        x.meet(0, 9);
        x.informer(0);
        x.informer(9);
        Check.due("search, the least of each", 0, x.search(0, 0));
        Check.due("search, the greatest of each", 1, x.search(9, 9));
    }

    // Promises 24 and 25

    private static void isKnown() {
        Story.ORDINARY.noIndexBeside("isKnown", PEOPLE, (x, v) -> x.isKnown(v));
        Story.ORDINARY.noIndexBeside("isKnownAnew", PEOPLE, (x, v) -> x.isKnownAnew(v));
        ThinSheets x = new ThinSheets();
        x.meet(0, 9);
        x.informer(0);
        Check.due("isKnown, the least", false, x.isKnown(0));
        Check.due("isKnown, the greatest", true, x.isKnown(9));
        Check.due("isKnownAnew, the least", false, x.isKnownAnew(0));
        Check.due("isKnownAnew, the greatest", true, x.isKnownAnew(9));
        x.informer(9);
        Check.due("isKnown, the least too", true, x.isKnown(0));
        Check.due("isKnownAnew, the least too", true, x.isKnownAnew(0));
    }

    // Promise 26

    private static void risk() {
        Story.ORDINARY.noIndexBeside("risk, person", PEOPLE, (x, v) -> x.risk(v, 1));
        Story.ORDINARY.noArgumentBeside("risk, nights", 0, 30, (x, v) -> x.risk(3, v));
        ThinSheets x = new ThinSheets();
        x.meet(0, 9);
        Check.due("risk, the least of each", 0, x.risk(0, 0));
        Check.due("risk, the greatest of each", 1, x.risk(9, 30));
        Check.due("risk, the least for the most", 1 << 9, x.risk(0, 30));
    }

    // Promise 27

    private static void pass() {
        Story.ORDINARY.noArgumentBeside("pass", 1, 30, (x, v) -> x.pass(v));
        Story.LATE.noArgumentBeside("pass", 1, 30, (x, v) -> x.pass(v));
        ThinSheets x = new ThinSheets();
        Check.due("pass, the least", 1, x.pass(1));
        Check.due("pass, the greatest", 31, x.pass(30));
    }

    // Promise 28

    private static void life() {
        Story.OPEN.noIndexBeside("life", PEOPLE, (x, v) -> lived(x, v));
        ThinSheets x = new ThinSheets();
        x.meet(0, 9);
        x.informer(0);
        x.open();
        x.life(0, false, false);
        Check.due("life, the least", 0, x.line(0, 2));
        Check.due("life, not the greatest", ThinSheets.COVERED, x.line(0, 3));
        x.life(9, false, false);
        Check.due("life, the greatest", 9, x.line(0, 3));
    }

    // Promise 30

    private static void line() {
        Story.OPEN.noIndexBeside("line, line", LINES, (x, v) -> x.line(v, 0));
        Story.OPEN.noArgumentBeside("line, what", 0, 3, (x, v) -> x.line(0, v));
        ThinSheets x = Story.OPEN.made();
        Check.due("line, lines", LINES, x.open());
        Check.due("line, the least of each", 0, x.line(0, 0));
        Check.due("line, the greatest line", 4, x.line(LINES - 1, 0));
        Check.due("line, the greatest what", 3, x.line(0, 3));
    }

    /** Where there are no sheets and no lines yet, there is not even the least one. */
    private static void sheetsOfNothing() {
        int[] numbers = {0, 1, -1, 39, 40, Integer.MIN_VALUE, Integer.MAX_VALUE};
        for (int number : numbers) {
            Story.NEW.noIndex("type of " + number, x -> x.type(number, 0, 1));
            Story.NEW.noIndex("reading of " + number, x -> x.reading(number, 0));
            Story.NEW.noIndex("unlikely of " + number, x -> x.unlikely(number, number));
            Story.NEW.noIndex("likeliest of " + number, x -> x.likeliest(number));
            Story.NEW.noIndex("sheetIs of " + number, x -> x.sheetIs(number, 0));
            Story.NEW.noIndex("give of " + number, x -> x.give(number, 0));
            Story.NEW.noIndex("hide of " + number, x -> x.hide(number, 0));
            Story.NEW.noIndex("burn of " + number, x -> burned(x, number));
            Story.NEW.noIndex("line of " + number, x -> x.line(number, 0));
        }
    }

    /** Where there are all 40 sheets, the greatest is 39. */
    private static void sheetsOfAll() {
        Story.FULL.noIndexBeside("type", 40, (x, v) -> x.type(v, 0, 1));
        Story.FULL.noIndexBeside("reading", 40, (x, v) -> x.reading(v, 0));
        Story.FULL.noIndexBeside("unlikely", 40, (x, v) -> x.unlikely(v, 0));
        Story.FULL.noIndexBeside("unlikely of it", 40, (x, v) -> x.unlikely(0, v));
        Story.FULL.noIndexBeside("likeliest", 40, (x, v) -> x.likeliest(v));
        Story.FULL.noIndexBeside("sheetIs", 40, (x, v) -> x.sheetIs(v, 0));
        Story.FULL.noIndexBeside("give", 40, (x, v) -> x.give(v, 1));
        Story.FULL.noIndexBeside("hide", 40, (x, v) -> x.hide(v, 1));
        Story.FULL.noIndexBeside("burn", 40, (x, v) -> burned(x, v));
        ThinSheets x = Story.FULL.made();
        x.meet(0, 1);
        Check.due("reading of the last", 11, x.reading(39, 11));
        Check.due("unlikely of the last", 2, x.unlikely(39, 0));
        Check.due("likeliest of the last", 0, x.likeliest(39));
        Check.due("sheetIs of the last", 2, x.sheetIs(39, 2));
        Check.due("hide of the last", 0, x.hide(39, 9));
        Check.due("give of the last", 0, x.give(39, 1));
        x.burn(39);
        Check.due("burn of the last", ThinSheets.NONE, x.sheetIs(39, 5));
    }
}
