/** Each promise of the document: ordinary inputs, the edges that it names, and wrong inputs. */
public final class PromisesTest {

    private static final int LOW = Integer.MIN_VALUE;
    private static final int HIGH = Integer.MAX_VALUE;
    private static final int NONE = ThinSheets.NONE;
    private static final int BLANK = ThinSheets.BLANK;
    private static final int OMITTED = ThinSheets.OMITTED;
    private static final int WORD = ThinSheets.WORD;
    private static final int LEAP = ThinSheets.LEAP;
    private static final int GUESS = ThinSheets.GUESS;
    private static final int COVERED = ThinSheets.COVERED;

    private PromisesTest() {
    }

    public static void main(String[] args) {
        newObject();
        word();
        write();
        writeFills();
        slip();
        type();
        typeRefuses();
        typeFills();
        reading();
        readingOfGuesses();
        unlikely();
        wordZero();
        likeliest();
        restored();
        restoredOfBatches();
        sheetIs();
        meet();
        give();
        hide();
        burn();
        whoHad();
        knows();
        lend();
        file();
        informer();
        informerSees();
        strong();
        arrest();
        search();
        searchForMachines();
        searchSeesAheadOfMachines();
        amnesty();
        isKnown();
        isKnownAnew();
        risk();
        pass();
        passOfTwo();
        life();
        open();
        line();
        lineRefuses();
        lineOrder();
        lineOfEveryCall();
        Check.end();
    }

    // Promise 1

    private static void newObject() {
        ThinSheets x = new ThinSheets();
        Check.noIndex("new: reading(0, 0)", () -> x.reading(0, 0));
        Check.noIndex("new: sheetIs(0, 0)", () -> x.sheetIs(0, 0));
        Check.noIndex("new: likeliest(0)", () -> x.likeliest(0));
        for (int text = 0; text < 3; text++) {
            for (int place = 0; place < 12; place++) {
                Check.due("new: restored", NONE, x.restored(text, place));
                Check.due("new: word", place, x.word(text, place, place));
            }
        }
        for (int person = 0; person < 10; person++) {
            Check.due("new: knows " + person, 0, x.knows(person));
            Check.due("new: isKnown " + person, false, x.isKnown(person));
            Check.due("new: strong " + person, 3, x.strong(person, 3));
        }
        Check.due("new: open", 0, x.open());
        Check.due("new: amnesty", 0, x.amnesty());
        Check.due("new: pass(1)", 1, x.pass(1));
    }

    // Promise 2

    private static void word() {
        ThinSheets x = new ThinSheets();
        Check.due("word of the place 11", 11, x.word(2, 11, 99));
        Check.due("word told before", 99, x.word(2, 11, 0));
        Check.due("word of another text", 11, x.word(1, 11, 7));
        Check.due("word of another place", 10, x.word(2, 10, 10));
        Check.noIndex("word of text -1", () -> x.word(-1, 0, 0));
        Check.noIndex("word of text 3", () -> x.word(3, 0, 0));
        Check.noIndex("word of place -1", () -> x.word(0, -1, 0));
        Check.noIndex("word of place 12", () -> x.word(0, 12, 0));
        Check.noIndex("word, index first", () -> x.word(LOW, HIGH, 100));
        Check.noArgument("word -1", () -> x.word(0, 0, -1));
        Check.noArgument("word 100", () -> x.word(0, 0, 100));
        Check.due("word is as it was", 0, x.word(0, 0, 5));
        x.lend(3, 4);
        x.write(0, 4, 3);
        Check.due("word of a sheet", 5, x.reading(0, 0));
        Check.noState("word behind a sheet", () -> x.word(0, 1, 8));
        Check.noArgument("word, argument ahead of state", () -> x.word(0, 1, 100));
        Check.due("word of a text without sheets", 7, x.word(1, 11, 8));
        x.burn(0);
        Check.noState("word behind a burned sheet", () -> x.word(0, 1, 8));
        x.write(0, 4, 3);
        Check.due("word that was refused", 1, x.reading(1, 1));
    }

    // Promise 3

    private static void write() {
        ThinSheets x = new ThinSheets();
        x.word(2, 3, 33);
        Check.noState("write without a machine", () -> x.write(2, 9, 3));
        x.lend(3, 9);
        Check.due("write", 0, x.write(2, 9, 3));
        Check.due("write again", 1, x.write(2, 9, 3));
        Check.due("write another text", 2, x.write(0, 9, 3));
        Check.due("written word", 33, x.reading(0, 3));
        Check.due("written word of another text", 3, x.reading(2, 3));
        Check.due("batch of the third", 2, x.sheetIs(2, 1));
        Check.noState("write with another's machine", () -> x.write(2, 8, 3));
        Check.noIndex("write of text 3", () -> x.write(3, 9, 3));
        Check.noIndex("write of text -1", () -> x.write(-1, 9, 3));
        Check.noIndex("write by 10", () -> x.write(0, 10, 3));
        Check.noIndex("write by -1", () -> x.write(0, -1, 3));
        Check.noIndex("write with 4", () -> x.write(0, 9, 4));
        Check.noIndex("write with -1", () -> x.write(0, 9, -1));
        x.slip(0, WORD, 88);
        x.write(2, 9, 3);
        Check.due("slips are not of what is written", 0, x.reading(3, 0));
        Check.due("slips stay behind what is written", 2, x.slip(1, WORD, 5));
        Setting.makeKnown(x, 9, 1);
        x.arrest(9);
        Check.noState("write by one who is arrested", () -> x.write(2, 9, 3));
        x.amnesty();
        Check.due("write by one who is freed", 4, x.write(2, 9, 3));
    }

    private static void writeFills() {
        ThinSheets x = new ThinSheets();
        x.lend(0, 0);
        for (int sheet = 0; sheet < 40; sheet++) {
            Check.due("write", sheet, x.write(1, 0, 0));
        }
        Check.noState("write of a sheet 40", () -> x.write(1, 0, 0));
        x.burn(0);
        Check.noState("write of a sheet 40 behind a burning", () -> x.write(1, 0, 0));
        Check.noIndex("reading of a sheet 40", () -> x.reading(40, 0));
        Check.due("batch of the last", 39, x.sheetIs(39, 1));
        Check.due("parent of the last", 0, x.likeliest(39));
        Check.due("restored from all", 4, x.restored(1, 4));
        Check.due("who had any", 1, x.whoHad(1, 4, 4));
        x.file(0);
        Check.due("sees all", 1, x.informer(0));
        Check.due("all but the burned one", 39, x.arrest(0));
    }

    // Promise 4

    private static void slip() {
        ThinSheets x = Setting.written();
        Check.due("slip", 1, x.slip(11, WORD, 99));
        Check.due("slip at another place", 2, x.slip(0, LEAP, 0));
        Check.due("slip at a place again", 2, x.slip(0, GUESS, 7));
        Check.noIndex("slip at -1", () -> x.slip(-1, WORD, 0));
        Check.noIndex("slip at 12", () -> x.slip(12, 3, 100));
        Check.noArgument("slip of kind -1", () -> x.slip(0, -1, 0));
        Check.noArgument("slip of kind 3", () -> x.slip(0, 3, 0));
        Check.noArgument("slip of word -1", () -> x.slip(0, WORD, -1));
        Check.noArgument("slip of word 100", () -> x.slip(0, GUESS, 100));
        Check.noArgument("leap with a word", () -> x.slip(0, LEAP, 1));
        Check.noArgument("leap with word -1", () -> x.slip(0, LEAP, -1));
        Check.due("slip told last", 2, x.slip(0, WORD, 66));
        x.type(0, 0, 1);
        Check.due("slip at 0", 66, x.reading(1, 0));
        Check.due("slip at 11", 99, x.reading(1, 11));
        Check.due("no slips behind a batch", 1, x.slip(5, LEAP, 0));
        x.type(0, 0, 1);
        Check.due("slip of the batch before", 11, x.reading(2, 11));
        Check.due("leap", OMITTED, x.reading(2, 5));
        for (int place = 0; place < 12; place++) {
            Check.due("slips at all places", place + 1, x.slip(place, GUESS, 0));
        }
    }

    // Promise 5

    private static void type() {
        ThinSheets x = Setting.written();
        Check.due("type", 1, x.type(0, 0, 6));
        Check.due("type one", 7, x.type(1, 0, 1));
        for (int copy = 0; copy < 6; copy++) {
            for (int place = 0; place < 12; place++) {
                int due = place % 6 < copy - 2 ? BLANK : place;
                Check.due("copy " + copy + " at " + place, due, x.reading(1 + copy, place));
            }
            Check.due("text of a copy", 0, x.sheetIs(1 + copy, 0));
            Check.due("batch of a copy", 1, x.sheetIs(1 + copy, 1));
            Check.due("number of a copy", copy, x.sheetIs(1 + copy, 2));
            Check.due("source of a copy", 0, x.sheetIs(1 + copy, 3));
            Check.due("machine of a copy", 0, x.sheetIs(1 + copy, 4));
            Check.due("holder of a copy", 0, x.sheetIs(1 + copy, 5));
        }
        Check.due("copy of a copy", 1, x.sheetIs(7, 3));
        Check.due("next batch", 2, x.sheetIs(7, 1));
        x.meet(0, 1);
        x.give(6, 1);
        x.lend(1, 1);
        Check.due("type by the one with whom it is", 8, x.type(6, 1, 2));
        Check.due("with the one who typed", 1, x.sheetIs(9, 5));
        Check.due("pale stays", BLANK, x.reading(8, 2));
    }

    private static void typeRefuses() {
        ThinSheets x = Setting.written();
        x.write(0, 0, 0);
        Check.noIndex("type of -1", () -> x.type(-1, 0, 1));
        Check.noIndex("type of 2", () -> x.type(2, 0, 1));
        Check.noIndex("type with -1", () -> x.type(0, -1, 1));
        Check.noIndex("type with 4", () -> x.type(0, 4, 0));
        Check.noArgument("type of 0 copies", () -> x.type(0, 0, 0));
        Check.noArgument("type of -1 copies", () -> x.type(0, 0, LOW));
        Check.noArgument("type of 7 copies", () -> x.type(0, 1, 7));
        Check.noArgument("type of very many copies", () -> x.type(0, 0, HIGH));
        Check.noState("type with another machine", () -> x.type(0, 1, 1));
        x.slip(0, LEAP, 0);
        x.burn(0);
        Check.noState("type of a burned one", () -> x.type(0, 0, 1));
        Check.noState("type of a burned one with nobody's machine", () -> x.type(0, 1, 1));
        Check.due("slips behind what is refused", 2, x.slip(1, LEAP, 0));
        x.hide(1, 1);
        Setting.makeKnown(x, 0, 1);
        x.arrest(0);
        Check.noState("type by one who is arrested", () -> x.type(1, 0, 1));
        x.amnesty();
        Check.due("type by one who is freed", 2, x.type(1, 0, 1));
        x.search(0, 0);
        Check.noState("type of a seized one", () -> x.type(2, 0, 1));
    }

    private static void typeFills() {
        ThinSheets x = Setting.written();
        for (int first = 1; first < 37; first += 6) {
            Check.due("type", first, x.type(0, 0, 6));
        }
        x.slip(3, LEAP, 0);
        Check.noState("type of the sheets 37 to 40", () -> x.type(0, 0, 4));
        Check.due("slips behind what is refused", 2, x.slip(4, LEAP, 0));
        Check.due("type of the sheets 37 to 39", 37, x.type(0, 0, 3));
        Check.due("slip in the last batch", OMITTED, x.reading(39, 3));
        Check.due("batch behind what is refused", 7, x.sheetIs(39, 1));
        Check.noState("type of a sheet 40", () -> x.type(0, 0, 1));
    }

    // Promise 6

    private static void reading() {
        ThinSheets x = Setting.written();
        x.write(1, 0, 0);
        Check.noIndex("reading of -1", () -> x.reading(-1, 0));
        Check.noIndex("reading of 2", () -> x.reading(2, 0));
        Check.noIndex("reading at -1", () -> x.reading(0, -1));
        Check.noIndex("reading at 12", () -> x.reading(0, 12));
        x.slip(1, WORD, 44);
        x.slip(2, GUESS, 45);
        x.slip(6, LEAP, 0);
        x.type(0, 0, 4);
        Check.due("a word for a word", 44, x.reading(2, 1));
        Check.due("a guess at a word", 2, x.reading(2, 2));
        Check.due("a leap", OMITTED, x.reading(2, 6));
        Check.due("a leap is not paled", OMITTED, x.reading(5, 6));
        Check.due("a pale word", BLANK, x.reading(5, 0));
        Check.due("a word that is not pale", 44, x.reading(5, 1));
        x.burn(5);
        Check.due("a burned one", 44, x.reading(5, 1));
        Setting.makeKnown(x, 0, 9);
        x.search(0, 0);
        Check.due("a seized one", 44, x.reading(2, 1));
    }

    private static void readingOfGuesses() {
        ThinSheets x = Setting.written();
        x.slip(2, LEAP, 0);
        x.type(0, 0, 6);
        x.slip(0, WORD, 50);
        x.slip(1, GUESS, 51);
        x.slip(2, GUESS, 52);
        x.slip(6, LEAP, 0);
        x.slip(7, GUESS, 57);
        x.type(6, 0, 6);
        Check.due("a word at a blank", BLANK, x.reading(7, 0));
        Check.due("a guess at a blank", 51, x.reading(7, 1));
        Check.due("a guess at what is omitted", OMITTED, x.reading(7, 2));
        Check.due("a leap at a blank", OMITTED, x.reading(7, 6));
        Check.due("a blank stays", BLANK, x.reading(7, 8));
        Check.due("a guess that is not pale", 57, x.reading(10, 7));
        Check.due("a guess that is pale", BLANK, x.reading(11, 7));
        x.slip(2, WORD, 3);
        x.type(7, 0, 1);
        Check.due("a word at what is omitted", OMITTED, x.reading(13, 2));
    }

    // Promise 7

    private static void unlikely() {
        ThinSheets x = Setting.written();
        x.slip(0, WORD, 90);
        x.slip(3, LEAP, 0);
        x.slip(4, LEAP, 0);
        x.type(0, 0, 5);
        Check.due("of itself", 0, x.unlikely(1, 1));
        Check.due("a word and two leaps", 2 + 1 + 1, x.unlikely(1, 0));
        Check.due("words for what is omitted", 2 + 6 + 6, x.unlikely(0, 1));
        // The sheet 5, the copy 4, is blank at 0, 1, 6 and 7, and has no word at 3 and 4.
        Check.due("blanks for words", 1 + 1, x.unlikely(5, 0));
        Check.due("words for blanks", 4 + 6 + 6, x.unlikely(0, 5));
        Check.due("the same behind a leap", 0, x.unlikely(5, 1));
        x.slip(6, LEAP, 0);
        x.slip(4, GUESS, 4);
        x.type(5, 0, 1);
        Check.due("omitted for a blank", 1, x.unlikely(6, 5));
        Check.due("a blank for what is omitted", 0, x.unlikely(5, 6));
        x.write(1, 0, 0);
        Check.noArgument("of another text", () -> x.unlikely(0, 7));
        Check.noIndex("of -1", () -> x.unlikely(0, -1));
        Check.noIndex("of 8", () -> x.unlikely(0, 8));
        Check.noIndex("-1 of another", () -> x.unlikely(-1, 0));
        Check.noIndex("8 of another", () -> x.unlikely(8, 7));
        x.burn(0);
        Check.due("of a burned one", 4, x.unlikely(1, 0));
    }

    /** The word 0 is a word as any other one is. */
    private static void wordZero() {
        ThinSheets x = Setting.written();
        x.slip(0, LEAP, 0);
        x.type(0, 0, 1);
        Check.due("the word 0 for what is omitted", 6, x.unlikely(0, 1));
        Check.due("the word 0 omitted", 1, x.unlikely(1, 0));
        Check.due("the word 0 restored", 0, x.restored(0, 0));
        x.slip(0, WORD, 9);
        x.type(0, 0, 4);
        Check.due("another word for the word 0", 2, x.unlikely(2, 0));
        x.slip(0, GUESS, 0);
        x.type(5, 0, 1);
        Check.due("the word 0 guessed at a blank", 1, x.unlikely(6, 5));
        x.slip(0, WORD, 5);
        x.type(6, 0, 4);
        Check.due("a word for the word 0", 5, x.reading(7, 0));
        Check.due("a blank for it", BLANK, x.reading(10, 0));
    }

    // Promise 8

    private static void likeliest() {
        ThinSheets x = Setting.written();
        Check.due("without", NONE, x.likeliest(0));
        x.write(1, 0, 0);
        Check.due("without any of its text", NONE, x.likeliest(1));
        x.write(0, 0, 0);
        Check.due("of a written one", 0, x.likeliest(2));
        x.slip(5, WORD, 95);
        x.type(0, 0, 6);
        Check.due("of its own batch none; of several the lowest", 0, x.likeliest(4));
        Check.due("with blanks", 0, x.likeliest(8));
        x.type(4, 0, 1);
        Check.due("the least number", 3, x.likeliest(9));
        x.slip(3, GUESS, 3);
        x.type(8, 0, 1);
        Check.due("one without what is blank", 3, x.likeliest(10));
        x.burn(0);
        x.burn(3);
        Check.due("a burned one", 3, x.likeliest(9));
        x.write(0, 0, 0);
        Check.due("of a later one with more", 0, x.likeliest(11));
        Check.noIndex("of -1", () -> x.likeliest(-1));
        Check.noIndex("of 12", () -> x.likeliest(12));
    }

    // Promise 9

    private static void restored() {
        ThinSheets x = Setting.written();
        Check.due("a written word", 7, x.restored(0, 7));
        Check.due("another text", NONE, x.restored(1, 7));
        x.slip(7, WORD, 70);
        x.slip(8, LEAP, 0);
        x.type(0, 0, 6);
        Check.due("one vote for each batch, the earliest", 7, x.restored(0, 7));
        x.type(1, 0, 2);
        Check.due("the most votes", 70, x.restored(0, 7));
        Check.due("what is omitted has no vote", 8, x.restored(0, 8));
        x.burn(0);
        Check.due("without votes", NONE, x.restored(0, 8));
        Check.noIndex("of text -1", () -> x.restored(-1, 0));
        Check.noIndex("of text 3", () -> x.restored(3, 0));
        Check.noIndex("at -1", () -> x.restored(0, -1));
        Check.noIndex("at 12", () -> x.restored(0, 12));
        Setting.makeKnown(x, 0, 1);
        x.search(0, 0);
        Check.due("nothing is left", NONE, x.restored(0, 7));
    }

    private static void restoredOfBatches() {
        ThinSheets x = Setting.written();
        x.type(0, 0, 6);
        x.burn(0);
        x.burn(1);
        x.burn(2);
        x.burn(3);
        x.slip(1, WORD, 61);
        x.type(4, 0, 1);
        Check.due("the lowest copy that is left", 1, x.restored(0, 1));
        x.burn(4);
        Check.due("blanks have no vote", 61, x.restored(0, 1));
        x.slip(1, WORD, 62);
        x.type(7, 0, 1);
        Check.due("of one vote each, the earliest batch", 61, x.restored(0, 1));
        x.type(8, 0, 1);
        Check.due("two votes for the later word", 62, x.restored(0, 1));
        x.type(7, 0, 1);
        Check.due("two votes each", 61, x.restored(0, 1));
        x.burn(7);
        Check.due("one vote less", 62, x.restored(0, 1));
        x.burn(8);
        Check.due("the earliest batch that is left", 62, x.restored(0, 1));
    }

    // Promise 10

    private static void sheetIs() {
        ThinSheets x = Setting.written();
        x.lend(2, 0);
        x.write(2, 0, 2);
        int[] writtenIs = {2, 1, 0, NONE, 2, 0, 0, 0};
        for (int what = 0; what < 8; what++) {
            Check.due("written sheet is " + what, writtenIs[what], x.sheetIs(1, what));
        }
        x.type(1, 0, 3);
        x.hide(4, 6);
        int[] typedIs = {2, 2, 2, 1, 0, 0, 0, 6};
        for (int what = 0; what < 8; what++) {
            Check.due("typed sheet is " + what, typedIs[what], x.sheetIs(4, what));
        }
        x.burn(4);
        Check.due("burned, with", NONE, x.sheetIs(4, 5));
        Check.due("burned, seized", 0, x.sheetIs(4, 6));
        Check.due("burned, took", 6, x.sheetIs(4, 7));
        x.hide(3, 2);
        Setting.makeKnown(x, 0, 5);
        x.search(0, 2);
        Check.due("seized, with", NONE, x.sheetIs(3, 5));
        Check.due("seized, seized", 1, x.sheetIs(3, 6));
        Check.due("seized, took", 2, x.sheetIs(3, 7));
        Check.due("seized, typed of", 1, x.sheetIs(3, 3));
        Check.noArgument("what -1", () -> x.sheetIs(0, -1));
        Check.noArgument("what 8", () -> x.sheetIs(0, 8));
        Check.noIndex("sheet -1", () -> x.sheetIs(-1, 0));
        Check.noIndex("sheet 5", () -> x.sheetIs(5, 8));
    }

    // Promise 11

    private static void meet() {
        ThinSheets x = new ThinSheets();
        Check.due("meet", true, x.meet(0, 9));
        Check.due("meet again", false, x.meet(0, 9));
        Check.due("meet the other way", false, x.meet(9, 0));
        Check.due("knows", 1 << 9, x.knows(0));
        Check.due("is known by", 1, x.knows(9));
        Check.noArgument("meet oneself", () -> x.meet(3, 3));
        Check.noIndex("meet -1", () -> x.meet(0, -1));
        Check.noIndex("meet 10", () -> x.meet(0, 10));
        Check.noIndex("-1 meets", () -> x.meet(-1, 0));
        Check.noIndex("10 meets", () -> x.meet(10, 0));
        Check.noIndex("10 meets himself", () -> x.meet(10, 10));
        Setting.makeKnown(x, 0, 5);
        x.arrest(0);
        Check.noState("one who is arrested meets", () -> x.meet(0, 4));
        Check.noState("somebody meets one who is arrested", () -> x.meet(4, 0));
        Check.noArgument("one who is arrested meets himself", () -> x.meet(0, 0));
        Check.due("none met", 0, x.knows(4));
        x.amnesty();
        Check.due("meet behind an amnesty", true, x.meet(4, 0));
        x.meet(5, 4);
        Check.due("an informer tells whom he meets", true, x.isKnown(4));
        Check.due("who meets an informer tells nobody", false, x.isKnown(5));
        x.meet(3, 5);
        Check.due("an informer tells who meets him", true, x.isKnown(3));
    }

    // Promise 12

    private static void give() {
        ThinSheets x = Setting.written();
        x.meet(0, 1);
        x.meet(1, 2);
        x.hide(0, 5);
        Check.noState("give to one who is not known", () -> x.give(0, 2));
        Check.noState("give to oneself", () -> x.give(0, 0));
        Check.due("as hidden", 5, x.sheetIs(0, 7));
        Check.due("give", 0, x.give(0, 1));
        Check.due("with", 1, x.sheetIs(0, 5));
        Check.due("found at once as it comes", 0, x.sheetIs(0, 7));
        Check.due("give again", 1, x.give(0, 2));
        Check.due("give back", 2, x.give(0, 1));
        Check.noIndex("give -1", () -> x.give(-1, 0));
        Check.noIndex("give 1", () -> x.give(1, 0));
        Check.noIndex("give to -1", () -> x.give(0, -1));
        Check.noIndex("give to 10", () -> x.give(0, 10));
        Setting.makeKnown(x, 2, 9);
        x.arrest(2);
        Check.noState("give to one who is arrested", () -> x.give(0, 2));
        x.meet(9, 1);
        x.hide(0, 1);
        x.arrest(1);
        Check.noState("give by one who is arrested", () -> x.give(0, 0));
        x.amnesty();
        x.give(0, 0);
        x.burn(0);
        Check.noState("give what is burned", () -> x.give(0, 1));
        x.write(0, 0, 0);
        x.give(1, 1);
        x.arrest(1);
        x.amnesty();
        Check.noState("give what is seized", () -> x.give(1, 0));
    }

    // Promise 13

    private static void hide() {
        ThinSheets x = Setting.written();
        Check.due("hide", 0, x.hide(0, 9));
        Check.due("hide again", 9, x.hide(0, 0));
        Check.due("hide at last", 0, x.hide(0, 4));
        Check.noArgument("hide for -1", () -> x.hide(0, -1));
        Check.noArgument("hide for 10", () -> x.hide(0, 10));
        Check.noIndex("hide -1", () -> x.hide(-1, 0));
        Check.noIndex("hide 1", () -> x.hide(1, 10));
        Check.due("as hidden", 4, x.sheetIs(0, 7));
        Setting.makeKnown(x, 0, 1);
        x.arrest(0);
        Check.noState("hide by one who is arrested", () -> x.hide(0, 5));
        Check.noArgument("hide, argument ahead of state", () -> x.hide(0, 10));
        x.amnesty();
        Check.due("hide behind an amnesty", 4, x.hide(0, 3));
        x.burn(0);
        Check.noState("hide what is burned", () -> x.hide(0, 5));
        Check.due("took when burned", 3, x.sheetIs(0, 7));
        x.write(0, 0, 0);
        x.search(0, 0);
        Check.noState("hide what is seized", () -> x.hide(1, 5));
    }

    // Promise 14

    private static void burn() {
        ThinSheets x = Setting.written();
        x.write(0, 0, 0);
        x.burn(0);
        Check.due("burned", NONE, x.sheetIs(0, 5));
        Check.due("not burned", 0, x.sheetIs(1, 5));
        Check.noIndex("burn -1", () -> burnOf(x, -1));
        Check.noIndex("burn 2", () -> burnOf(x, 2));
        Check.noState("burn again", () -> burnOf(x, 0));
        x.hide(1, 3);
        Setting.makeKnown(x, 0, 1);
        x.arrest(0);
        Check.noState("burn by one who is arrested", () -> burnOf(x, 1));
        Check.due("not burned by that", 0, x.sheetIs(1, 5));
        x.search(0, 3);
        x.amnesty();
        Check.noState("burn what is seized", () -> burnOf(x, 1));
        Check.due("still seized", 1, x.sheetIs(1, 6));
    }

    private static long burnOf(ThinSheets x, int sheet) {
        x.burn(sheet);
        return 0;
    }

    // Promise 15

    private static void whoHad() {
        ThinSheets x = Setting.written();
        x.meet(0, 1);
        x.meet(1, 9);
        x.slip(4, LEAP, 0);
        x.slip(5, WORD, 99);
        x.type(0, 0, 4);
        x.give(1, 1);
        x.give(1, 9);
        x.give(4, 1);
        Check.due("who had a word", 1, x.whoHad(0, 4, 4));
        Check.due("who had what is omitted", 1 + 2 + (1 << 9), x.whoHad(0, 4, OMITTED));
        Check.due("who had a blank", 1 + 2, x.whoHad(0, 0, BLANK));
        Check.due("who had the word 99", 1 + 2 + (1 << 9), x.whoHad(0, 5, 99));
        Check.due("who had the word 0", 1 + 2 + (1 << 9), x.whoHad(0, 0, 0));
        Check.due("who had another word", 0, x.whoHad(0, 4, 5));
        Check.due("who had another text", 0, x.whoHad(1, 4, 4));
        x.burn(1);
        Setting.makeKnown(x, 1, 2);
        x.arrest(1);
        Check.due("whatever became of them", 1 + 2 + (1 << 9), x.whoHad(0, 4, OMITTED));
        Check.noIndex("of text -1", () -> x.whoHad(-1, 0, 0));
        Check.noIndex("of text 3", () -> x.whoHad(3, 0, 100));
        Check.noIndex("at -1", () -> x.whoHad(0, -1, 0));
        Check.noIndex("at 12", () -> x.whoHad(0, 12, 0));
        Check.noArgument("reading -3", () -> x.whoHad(0, 0, -3));
        Check.noArgument("reading 100", () -> x.whoHad(0, 0, 100));
    }

    // Promise 16

    private static void knows() {
        ThinSheets x = new ThinSheets();
        x.meet(4, 0);
        x.meet(4, 9);
        x.meet(9, 8);
        Check.due("knows", 1 + (1 << 9), x.knows(4));
        Check.due("knows too", (1 << 4) + (1 << 8), x.knows(9));
        Check.due("knows nobody", 0, x.knows(1));
        Check.noIndex("knows -1", () -> x.knows(-1));
        Check.noIndex("knows 10", () -> x.knows(10));
    }

    // Promise 17

    private static void lend() {
        ThinSheets x = new ThinSheets();
        Check.due("lend", NONE, x.lend(3, 9));
        Check.due("lend again", 9, x.lend(3, 0));
        Check.due("lend to the same", 0, x.lend(3, 0));
        Check.due("lend another", NONE, x.lend(0, 0));
        Check.noIndex("lend -1", () -> x.lend(-1, 0));
        Check.noIndex("lend 4", () -> x.lend(4, 0));
        Check.noIndex("lend to -1", () -> x.lend(0, -1));
        Check.noIndex("lend to 10", () -> x.lend(0, 10));
        Setting.makeKnown(x, 0, 5);
        x.arrest(0);
        Check.noState("lend by one who is arrested", () -> x.lend(3, 1));
        Check.noState("lend to one who is arrested", () -> x.lend(1, 0));
        x.amnesty();
        Check.due("lend behind an amnesty", 0, x.lend(3, 1));
        x.search(0, 5);
        Check.noState("lend what was seized", () -> x.lend(0, 1));
        Check.due("lend what was not", 1, x.lend(3, 2));
    }

    // Promise 18

    private static void file() {
        ThinSheets x = Setting.written();
        Check.noState("file what is with nobody", () -> x.file(1));
        Check.noIndex("file -1", () -> x.file(-1));
        Check.noIndex("file 4", () -> x.file(4));
        Check.due("file", NONE, x.file(0));
        Check.due("file again", 0, x.file(0));
        Check.due("filed, and not seen", false, x.isKnown(0));
        x.lend(0, 4);
        Check.due("file anew", 0, x.file(0));
        Check.due("in place of what was noted", 4, x.file(0));
        x.meet(0, 5);
        x.informer(5);
        x.meet(6, 5);
        x.give(0, 5);
        Check.due("with whom it is noted becomes known", true, x.isKnown(4));
        x.lend(0, 7);
        Check.due("lent, and not filed", false, x.isKnown(7));
        Check.due("file what was seen", 4, x.file(0));
        Check.due("filed, and seen before", true, x.isKnown(7));
        x.arrest(7);
        Check.due("file with one who is arrested", 7, x.file(0));
        x.search(7, 5);
        Check.noState("file what was seized", () -> x.file(0));
    }

    // Promise 19

    private static void informer() {
        ThinSheets x = new ThinSheets();
        x.meet(5, 9);
        x.meet(5, 0);
        x.meet(0, 1);
        Check.due("informer", 2, x.informer(5));
        Check.due("told", true, x.isKnown(9));
        Check.due("told too", true, x.isKnown(0));
        Check.due("not told", false, x.isKnown(1));
        Check.due("not told of himself", false, x.isKnown(5));
        Check.noState("informer twice", () -> x.informer(5));
        Check.noIndex("informer -1", () -> x.informer(-1));
        Check.noIndex("informer 10", () -> x.informer(10));
        Check.due("another informer", 2, x.informer(0));
        Check.due("is told of", true, x.isKnown(5));
        Check.due("is told of too", true, x.isKnown(1));
        Check.due("tells of one who is known", 0, x.informer(1));
        Check.due("no line of that", 4, x.open());
        int[] told = {0, 9, 1, 5};
        for (int line = 0; line < 4; line++) {
            x.life(told[line], false, false);
            Check.due("by numbers", told[line], x.line(line, 3));
            Check.due("informed", ThinSheets.INFORMED, x.line(line, 1));
            Check.due("covered", line < 2 ? COVERED : 0, x.line(line, 2));
        }
        x.arrest(9);
        Check.noState("informer who is arrested", () -> x.informer(9));
        x.amnesty();
        Check.due("informer behind an amnesty", 0, x.informer(9));
        x.meet(9, 8);
        Check.due("tells at once whom he meets", true, x.isKnown(8));
    }

    private static void informerSees() {
        ThinSheets x = Setting.written();
        x.file(0);
        x.meet(0, 1);
        x.give(0, 1);
        x.lend(1, 2);
        x.write(1, 2, 1);
        x.file(1);
        x.meet(2, 3);
        Check.due("knows one, and sees a sheet of his", 1, x.informer(1));
        Check.due("not of another's machine", false, x.isKnown(2));
        x.lend(1, 4);
        Check.due("sees nothing", 1, x.informer(3));
        Check.due("the machine of what is not with him", true, x.isKnown(2));
        x.lend(2, 5);
        x.write(0, 5, 2);
        x.file(2);
        Check.due("sees what he wrote himself", 1, x.informer(5));
        Check.due("known by his own sheet", true, x.isKnown(5));
        x.lend(3, 6);
        x.file(3);
        x.lend(3, 5);
        x.write(0, 5, 3);
        Check.due("sees what he writes", true, x.isKnown(6));
        x.lend(1, 8);
        x.file(1);
        x.lend(1, 5);
        Check.due("not yet", false, x.isKnown(8));
        x.type(2, 1, 1);
        Check.due("sees what he types", true, x.isKnown(8));
    }

    // Promise 20

    private static void strong() {
        ThinSheets x = new ThinSheets();
        Check.due("strong at first", 3, x.strong(9, 0));
        Check.due("strong", 0, x.strong(9, 9));
        Check.due("strong again", 9, x.strong(9, 1));
        Check.due("another", 3, x.strong(8, 2));
        Check.noArgument("strong for -1", () -> x.strong(9, -1));
        Check.noArgument("strong for 10", () -> x.strong(9, 10));
        Check.noIndex("strong -1", () -> x.strong(-1, 10));
        Check.noIndex("strong 10", () -> x.strong(10, 0));
        x.meet(9, 0);
        x.meet(9, 1);
        Setting.makeKnown(x, 9, 5);
        x.arrest(9);
        x.pass(1);
        Check.due("strong for one night", false, x.isKnown(0));
        Check.due("as told", 1, x.strong(9, 3));
        x.pass(2);
        Check.due("as he is strong by then", false, x.isKnown(0));
        x.strong(9, 0);
        x.pass(1);
        Check.due("counted from the arrest on", true, x.isKnown(0));
        x.strong(9, 9);
        x.pass(5);
        Check.due("strong again", false, x.isKnown(1));
        x.pass(1);
        Check.due("strong no more", true, x.isKnown(1));
    }

    // Promise 21

    private static void arrest() {
        ThinSheets x = Setting.written();
        x.type(0, 0, 3);
        x.hide(1, 1);
        x.meet(0, 1);
        x.give(3, 1);
        Check.noState("arrest of one who is not known", () -> x.arrest(0));
        Check.noIndex("arrest of -1", () -> x.arrest(-1));
        Check.noIndex("arrest of 10", () -> x.arrest(10));
        Setting.makeKnown(x, 0, 9);
        x.file(0);
        x.lend(0, 2);
        x.file(0);
        Check.due("arrest", 2, x.arrest(0));
        Check.due("seized", 1, x.sheetIs(0, 6));
        Check.due("seized too", 1, x.sheetIs(2, 6));
        Check.due("hidden", 0, x.sheetIs(1, 6));
        Check.due("with another", 0, x.sheetIs(3, 6));
        Check.due("what is seized is seen", true, x.isKnown(2));
        Check.noState("arrest of one who is arrested", () -> x.arrest(0));
        x.amnesty();
        Check.due("arrest behind an amnesty", 0, x.arrest(0));
        Check.due("lines: informed, two arrests, machine", 4, x.open());
        Check.due("the arrest is ahead", ThinSheets.ARRESTED, x.line(1, 1));
        Check.due("then what is seen", ThinSheets.MACHINE, x.line(2, 1));
    }

    // Promise 22

    private static void search() {
        ThinSheets x = Setting.written();
        x.type(0, 0, 4);
        x.hide(0, 9);
        x.hide(1, 8);
        x.hide(2, 4);
        x.hide(3, 3);
        Check.noState("search of one who is not known", () -> x.search(0, 0));
        Check.noArgument("search, argument ahead of state", () -> x.search(0, 10));
        Setting.makeKnown(x, 0, 9);
        Check.noArgument("search for -1", () -> x.search(0, -1));
        Check.noArgument("search for 10", () -> x.search(0, 10));
        Check.noIndex("search of -1", () -> x.search(-1, 0));
        Check.noIndex("search of 10", () -> x.search(10, 10));
        Check.due("search for 0", 1, x.search(0, 0));
        Check.due("seized", 1, x.sheetIs(4, 6));
        Check.due("search for 4", 2, x.search(0, 4));
        Check.due("hidden", 0, x.sheetIs(1, 6));
        Check.due("the machine is with him yet", 0, x.lend(0, 0));
        x.arrest(0);
        Check.due("search of one who is arrested", 2, x.search(0, 9));
        Check.due("each search has a line", 5, x.open());
        Check.due("a search", ThinSheets.SEARCHED, x.line(1, 1));
        Check.due("a search behind an arrest", ThinSheets.SEARCHED, x.line(4, 1));
    }

    private static void searchForMachines() {
        ThinSheets x = Setting.written();
        x.lend(1, 0);
        x.lend(2, 3);
        x.burn(0);
        Setting.makeKnown(x, 0, 9);
        x.search(0, 4);
        Check.due("not by a search for 4", 0, x.lend(0, 0));
        Check.due("search for 5", 0, x.search(0, 5));
        Check.noState("seized", () -> x.lend(0, 1));
        Check.noState("seized too", () -> x.file(1));
        Check.noState("with nobody any more", () -> x.write(0, 0, 1));
        Check.due("with another", 3, x.lend(2, 4));
    }

    private static void searchSeesAheadOfMachines() {
        ThinSheets x = Setting.written();
        x.lend(0, 7);
        x.file(0);
        x.lend(0, 0);
        Setting.makeKnown(x, 0, 9);
        Check.due("search", 1, x.search(0, 9));
        Check.due("the sheet is seen ahead of the filing", true, x.isKnown(7));
        Check.due("lines", 3, x.open());
        Check.due("the search is ahead", ThinSheets.SEARCHED, x.line(1, 1));
        Check.due("by a machine", ThinSheets.MACHINE, x.line(2, 1));

        ThinSheets y = Setting.written();
        y.lend(0, 7);
        y.file(0);
        y.lend(0, 0);
        y.burn(0);
        Setting.makeKnown(y, 0, 9);
        y.search(0, 9);
        Check.due("a machine is filed with him, and then seen", false, y.isKnown(7));
    }

    // Promise 23

    private static void amnesty() {
        ThinSheets x = new ThinSheets();
        x.meet(0, 1);
        x.meet(0, 2);
        x.meet(0, 9);
        x.informer(0);
        Check.due("of nobody", 0, x.amnesty());
        x.arrest(1);
        x.arrest(9);
        Check.due("of two", 2, x.amnesty());
        Check.due("of nobody any more", 0, x.amnesty());
        Check.due("free", true, x.meet(1, 9));
        Check.due("known yet", true, x.isKnown(1));
        x.pass(10);
        Check.due("who is freed opens nobody", false, x.isKnown(0));
        x.arrest(1);
        x.pass(3);
        Check.due("counted from this arrest on", false, x.isKnown(0));
        x.pass(1);
        Check.due("opened", true, x.isKnown(0));
    }

    // Promises 24 and 25

    private static void isKnown() {
        ThinSheets x = new ThinSheets();
        x.meet(0, 9);
        x.informer(0);
        Check.due("known", true, x.isKnown(9));
        Check.due("not known", false, x.isKnown(0));
        Check.noIndex("isKnown(-1)", () -> x.isKnown(-1));
        Check.noIndex("isKnown(10)", () -> x.isKnown(10));
        x.arrest(9);
        x.amnesty();
        Check.due("known for good", true, x.isKnown(9));
    }

    private static void isKnownAnew() {
        ThinSheets x = Setting.written();
        x.file(0);
        x.meet(0, 1);
        x.meet(0, 2);
        x.meet(5, 0);
        Check.due("not known", false, x.isKnownAnew(0));
        x.strong(0, 0);
        x.informer(1);
        Check.due("informed", true, x.isKnownAnew(0));
        Check.due("who told is not known", false, x.isKnownAnew(1));
        x.lend(0, 3);
        x.file(0);
        Check.due("not by a machine yet", false, x.isKnownAnew(3));
        x.arrest(0);
        Check.due("by a machine", true, x.isKnownAnew(3));
        x.pass(2);
        Check.due("opened", true, x.isKnownAnew(1));
        Check.due("opened too", true, x.isKnownAnew(2));
        Check.due("not opened yet", false, x.isKnownAnew(5));
        Check.noIndex("isKnownAnew(-1)", () -> x.isKnownAnew(-1));
        Check.noIndex("isKnownAnew(10)", () -> x.isKnownAnew(10));
    }

    // Promise 26

    private static void risk() {
        ThinSheets x = new ThinSheets();
        x.meet(4, 9);
        x.meet(4, 2);
        x.meet(4, 0);
        Check.due("for 0", 0, x.risk(4, 0));
        Check.due("as strong as that", 0, x.risk(4, 3));
        Check.due("one", 1, x.risk(4, 4));
        Check.due("two", 1 + 4, x.risk(4, 5));
        Check.due("three", 1 + 4 + 512, x.risk(4, 6));
        Check.due("all", 1 + 4 + 512, x.risk(4, 30));
        Check.due("of one who knows nobody", 0, x.risk(1, 30));
        x.strong(4, 0);
        Check.due("strong for none", 1, x.risk(4, 1));
        Check.due("strong for none, for 0", 0, x.risk(4, 0));
        Setting.makeKnown(x, 0, 7);
        Check.due("who is known is not opened", 4, x.risk(4, 1));
        x.meet(7, 4);
        x.meet(2, 3);
        x.arrest(4);
        x.pass(1);
        Check.due("opened", true, x.isKnown(2));
        // One who is arrested is as if arrested now; others who are arrested are left aside.
        x.strong(4, 1);
        Check.due("as strong, counted from now", 0, x.risk(4, 1));
        Check.due("the informer too, whom he met", 128, x.risk(4, 2));
        Check.due("what others open is left aside", 128 + 512, x.risk(4, 3));
        x.strong(2, 9);
        Check.due("9 nights", 0, x.risk(2, 9));
        Check.due("10 nights", 8, x.risk(2, 10));
        Check.noArgument("for -1", () -> x.risk(4, -1));
        Check.noArgument("for 31", () -> x.risk(4, 31));
        Check.noIndex("of -1", () -> x.risk(-1, 31));
        Check.noIndex("of 10", () -> x.risk(10, 0));
    }

    // Promise 27

    private static void pass() {
        ThinSheets x = new ThinSheets();
        Check.noArgument("pass(0)", () -> x.pass(0));
        Check.noArgument("pass(-1)", () -> x.pass(-1));
        Check.noArgument("pass(31)", () -> x.pass(31));
        Check.noArgument("pass of very many", () -> x.pass(HIGH));
        for (int night = 30; night <= 990; night += 30) {
            Check.due("pass(30)", night, x.pass(30));
        }
        Check.noState("above 999", () -> x.pass(10));
        Check.due("pass(8)", 998, x.pass(8));
        Check.noState("above 999 by one", () -> x.pass(2));
        Check.noArgument("pass, argument ahead of state", () -> x.pass(31));
        Check.due("pass(1)", 999, x.pass(1));
        Check.noState("above 999 from there", () -> x.pass(1));
        x.meet(0, 1);
        x.informer(0);
        x.open();
        Check.due("the last night", 999, x.line(0, 0));
    }

    private static void passOfTwo() {
        ThinSheets x = new ThinSheets();
        x.meet(3, 9);
        x.meet(3, 8);
        x.meet(6, 8);
        x.meet(6, 7);
        x.informer(9);
        x.pass(5);
        x.arrest(3);
        Setting.makeKnown(x, 6, 0);
        x.pass(1);
        x.strong(6, 2);
        x.arrest(6);
        x.open();
        for (int person = 0; person < 10; person++) {
            x.life(person, false, false);
        }
        Check.due("lines so far", 4, x.open());
        x.pass(3);
        Check.due("by numbers: 3 opens 8, 6 opens 0", 6, x.open());
        int[][] lines = {{9, 2, 3, 8}, {9, 2, 6, 0}, {10, 2, 3, 9}, {10, 2, 6, 7}};
        Check.due("pass", 15, x.pass(6));
        Check.due("nobody is left", 8, x.open());
        for (int line = 0; line < 4; line++) {
            for (int what = 0; what < 4; what++) {
                Check.due("line " + line + ", " + what, lines[line][what], x.line(4 + line, what));
            }
        }
    }

    // Promise 28

    private static void life() {
        ThinSheets x = new ThinSheets();
        x.meet(0, 1);
        x.informer(0);
        x.open();
        Check.due("covered at first", COVERED, x.line(0, 3));
        Check.due("covered too", COVERED, x.line(0, 2));
        x.life(1, true, true);
        Check.due("who has consented", 1, x.line(0, 3));
        Check.due("another", COVERED, x.line(0, 2));
        x.life(1, true, false);
        Check.due("who consents no more", COVERED, x.line(0, 3));
        x.life(1, false, false);
        Check.due("who does not live", 1, x.line(0, 3));
        x.life(0, false, true);
        Check.due("who does not live, and consented", 0, x.line(0, 2));
        Check.noIndex("life of -1", () -> lifeOf(x, -1));
        Check.noIndex("life of 10", () -> lifeOf(x, 10));
    }

    private static long lifeOf(ThinSheets x, int person) {
        x.life(person, true, true);
        return 0;
    }

    // Promise 29

    private static void open() {
        ThinSheets x = new ThinSheets();
        x.meet(0, 1);
        x.informer(0);
        Check.noState("closed", () -> x.line(0, 0));
        Check.due("open", 1, x.open());
        Check.due("opened", 0, x.line(0, 0));
        x.arrest(1);
        Check.due("open again", 2, x.open());
        x.amnesty();
        x.pass(1);
        Check.due("for good", ThinSheets.ARRESTED, x.line(1, 1));
    }

    // Promise 30

    private static void line() {
        ThinSheets x = Setting.written();
        x.meet(0, 1);
        x.strong(0, 0);
        x.pass(2);
        x.informer(1);
        x.lend(0, 3);
        x.file(0);
        x.pass(1);
        x.arrest(0);
        x.pass(1);
        x.search(3, 4);
        for (int person = 0; person < 10; person++) {
            x.life(person, false, false);
        }
        int[][] due = {
            {2, ThinSheets.INFORMED, 1, 0},
            {3, ThinSheets.ARRESTED, NONE, 0},
            {3, ThinSheets.MACHINE, NONE, 3},
            {4, ThinSheets.OPENED, 0, 1},
            {4, ThinSheets.SEARCHED, NONE, 3},
        };
        Check.due("lines", due.length, x.open());
        for (int line = 0; line < due.length; line++) {
            for (int what = 0; what < 4; what++) {
                Check.due("line " + line + ", " + what, due[line][what], x.line(line, what));
            }
        }
        x.life(3, true, false);
        x.life(0, true, false);
        Check.due("nobody is not covered", NONE, x.line(4, 2));
        Check.due("a searched one is covered", COVERED, x.line(4, 3));
        Check.due("a machine's one is covered", COVERED, x.line(2, 3));
        Check.due("who opened is covered", COVERED, x.line(3, 2));
        Check.due("who is opened is not", 1, x.line(3, 3));
    }

    private static void lineRefuses() {
        ThinSheets x = new ThinSheets();
        Check.noIndex("no line", () -> x.line(0, 0));
        x.meet(0, 1);
        x.informer(0);
        Check.noIndex("line -1", () -> x.line(-1, 0));
        Check.noIndex("line 1", () -> x.line(1, 4));
        Check.noArgument("what -1, and closed", () -> x.line(0, -1));
        Check.noArgument("what 4, and closed", () -> x.line(0, 4));
        Check.noState("closed", () -> x.line(0, 3));
        x.open();
        Check.noArgument("what -1", () -> x.line(0, -1));
        Check.noArgument("what 4", () -> x.line(0, 4));
        Check.noIndex("line 1, and open", () -> x.line(1, 0));
    }

    /** An informer tells by numbers, then the sheets with him are seen by numbers. */
    private static void lineOrder() {
        ThinSheets x = new ThinSheets();
        int[] owners = {8, 7, 6};
        for (int machine = 0; machine < 3; machine++) {
            x.lend(machine, owners[machine]);
            x.file(machine);
            x.lend(machine, 0);
        }
        x.write(0, 0, 2);
        x.write(0, 0, 0);
        x.write(0, 0, 1);
        x.meet(0, 9);
        x.meet(0, 7);
        Check.due("those told and those by sheets", 4, x.informer(0));
        x.open();
        int[][] due = {{0, 0, 7}, {0, 0, 9}, {1, NONE, 6}, {1, NONE, 8}};
        for (int person = 0; person < 10; person++) {
            x.life(person, true, true);
        }
        for (int line = 0; line < due.length; line++) {
            for (int what = 1; what < 4; what++) {
                Check.due("order " + line, due[line][what - 1], x.line(line, what));
            }
        }
        twoInformersMeet(1, 2);
        twoInformersMeet(2, 1);
    }

    /** As many lines as the promised calls can make; and more, whatever they answer, end well. */
    private static void lineOfEveryCall() {
        ThinSheets x = new ThinSheets();
        Setting.makeKnown(x, 4, 0);
        x.open();
        for (int line = 1; line < 508; line++) {
            Check.due("search", 0, x.search(4, 4));
        }
        Check.due("the last line", ThinSheets.SEARCHED, x.line(507, 1));
        Check.due("lines", 508, x.open());
        for (int more = 0; more < 600; more++) {
            x.search(4, 9);
        }
    }

    private static void twoInformersMeet(int first, int second) {
        ThinSheets x = new ThinSheets();
        x.informer(1);
        x.informer(2);
        x.meet(first, second);
        x.life(1, false, false);
        x.life(2, false, false);
        Check.due("lines", 2, x.open());
        Check.due("who is named first tells first", first, x.line(0, 2));
        Check.due("of the other", second, x.line(0, 3));
        Check.due("then the other tells", second, x.line(1, 2));
        Check.due("of the first", first, x.line(1, 3));
    }
}
