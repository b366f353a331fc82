/** The sentences on texts and sheets that name an edge, and promises 1 to 10: one test for each. */
public final class SheetsEdgesTest {

    private static final int NONE = ThinSheets.NONE;
    private static final int BLANK = ThinSheets.BLANK;
    private static final int OMITTED = ThinSheets.OMITTED;
    private static final int WORD = ThinSheets.WORD;
    private static final int LEAP = ThinSheets.LEAP;
    private static final int GUESS = ThinSheets.GUESS;
    private static final int PLACES = 12;

    private SheetsEdgesTest() {
    }

    public static void main(String[] args) {
        newObject();
        wordsAtFirst();
        wordsFromZeroTo99();
        wordsOfOneTextAlone();
        sheetsFromZero();
        sheetsUpTo40();
        sheetsUpTo40ByTyping();
        batchesFromZero();
        copiesFromZeroTo5();
        allWordsOfWhatIsWritten();
        slipsOfTheNextBatch();
        slipsOfWhicheverSheet();
        slipsOfWhatIsWritten();
        slipToldLast();
        slipsAtAllPlaces();
        slipsBehindABatch();
        slipsInEachCopy();
        slipsByReadings();
        slipsOfEdgeWords();
        paleCopies();
        paleSlips();
        paleCopiesOfPaleOnes();
        unlikelyByReadings();
        unlikelySums();
        unlikelyOfEdgeWords();
        likeliestOfNone();
        likeliestAheadOfItsOwn();
        likeliestWhateverBecameOfThem();
        likeliestOfSeveral();
        likeliestOfItsText();
        restoredOfNothing();
        restoredByOneVoteEach();
        restoredByTheLowestCopy();
        restoredOfSeveral();
        restoredOfWhatIsLeft();
        restoredOfItsText();
        restoredOfEdgeWords();
        sheetIsOfWhatIsWritten();
        sheetIsOfTheLastCopy();
        sheetIsOfWhatIsGone();
        readingsOfWhatIsGone();
        Check.end();
    }

    /** Types one copy with one slip; returns its number. */
    private static int typed(ThinSheets x, int sheet, int place, int kind, int word) {
        x.slip(place, kind, word);
        return x.type(sheet, 0, 1);
    }

    private static void readingsAre(String what, ThinSheets x, int sheet, int... due) {
        for (int place = 0; place < due.length; place++) {
            Check.due(what + " at " + place, due[place], x.reading(sheet, place));
        }
    }

    // Promise 1: "No sheets."

    private static void newObject() {
        ThinSheets x = new ThinSheets();
        Check.noIndex("no sheet at first", () -> x.reading(0, 0));
        Check.due("no vote at first", NONE, x.restored(0, 0));
        Check.due("nobody had a sheet at first", 0, x.whoHad(0, 0, 0));
        Check.due("no slip at first", 1, x.slip(0, LEAP, 0));
        ThinSheets y = new ThinSheets();
        x.lend(0, 0);
        x.write(0, 0, 0);
        Check.noIndex("no sheet in another object", () -> y.reading(0, 0));
        Check.due("no slip in another object", 1, y.slip(5, LEAP, 0));
    }

    // "with a word at each, 0 to 99, at first that of the number of the place"

    private static void wordsAtFirst() {
        ThinSheets x = new ThinSheets();
        ThinSheets y = new ThinSheets();
        y.lend(0, 0);
        for (int text = 0; text < 3; text++) {
            y.write(text, 0, 0);
            for (int place = 0; place < PLACES; place++) {
                Check.due("word at first", place, y.reading(text, place));
                Check.due("word before the first telling", place, x.word(text, place, 50));
            }
        }
    }

    private static void wordsFromZeroTo99() {
        ThinSheets x = new ThinSheets();
        for (int word = 0; word <= 99; word++) {
            Check.due("the word before", word == 0 ? 7 : word - 1, x.word(1, 7, word));
        }
        Check.due("the last word", 99, x.word(1, 7, 99));
        Check.due("the same word again", 99, x.word(1, 7, 0));
    }

    private static void wordsOfOneTextAlone() {
        ThinSheets x = new ThinSheets();
        x.word(1, 5, 60);
        Check.due("the text ahead", 5, x.word(0, 5, 5));
        Check.due("the text behind", 5, x.word(2, 5, 5));
        Check.due("the place ahead", 4, x.word(1, 4, 4));
        Check.due("the place behind", 6, x.word(1, 6, 6));
        Check.due("the one told", 60, x.word(1, 5, 60));
    }

    // "Sheets are numbered from 0, at most 40, each of a text"

    private static void sheetsFromZero() {
        ThinSheets x = new ThinSheets();
        x.lend(0, 0);
        Check.due("the first", 0, x.write(2, 0, 0));
        Check.due("the copy 0 of two", 1, x.type(0, 0, 2));
        Check.due("the next one", 3, x.write(1, 0, 0));
        Check.due("the copy 0 of six", 4, x.type(3, 0, 6));
        Check.due("the one behind six", 10, x.type(2, 0, 1));
        int[] texts = {2, 2, 2, 1, 1, 1, 1, 1, 1, 1, 2};
        for (int sheet = 0; sheet < texts.length; sheet++) {
            Check.due("text of " + sheet, texts[sheet], x.sheetIs(sheet, 0));
        }
        x.burn(10);
        Check.due("the number of a burned one is not used again", 11, x.write(0, 0, 0));
    }

    private static void sheetsUpTo40() {
        ThinSheets x = new ThinSheets();
        x.lend(0, 0);
        for (int sheet = 0; sheet < 40; sheet++) {
            Check.due("sheet", sheet, x.write(sheet % 3, 0, 0));
        }
        Check.noState("a sheet 40", () -> x.write(0, 0, 0));
        Check.noState("a copy 40", () -> x.type(0, 0, 1));
        for (int sheet = 0; sheet < 40; sheet++) {
            Check.due("batch of " + sheet, sheet, x.sheetIs(sheet, 1));
            Check.due("word of " + sheet, 11, x.reading(sheet, 11));
            Check.due("parent of " + sheet, sheet < 3 ? NONE : sheet % 3, x.likeliest(sheet));
        }
    }

    private static void sheetsUpTo40ByTyping() {
        for (int copies = 1; copies <= 6; copies++) {
            ThinSheets x = Setting.written();
            int there = 1;
            while (there + copies <= 40) {
                Check.due("copies of " + copies, there, x.type(0, 0, copies));
                there += copies;
            }
            int more = copies;
            Check.noState("more than 40 by " + copies, () -> x.type(0, 0, more));
            while (there < 40) {
                Check.due("one more", there, x.type(0, 0, 1));
                there++;
            }
            Check.noState("more than 40", () -> x.type(0, 0, 1));
            Check.due("the last one", 11, x.reading(39, 11));
        }
    }

    // "in batches, which are numbered from 0: an author writes one of all words; or up to 6 ..."

    private static void batchesFromZero() {
        ThinSheets x = Setting.written();
        x.write(1, 0, 0);
        x.type(0, 0, 6);
        x.type(1, 0, 1);
        x.write(0, 0, 0);
        int[] batches = {0, 1, 2, 2, 2, 2, 2, 2, 3, 4};
        for (int sheet = 0; sheet < batches.length; sheet++) {
            Check.due("batch of " + sheet, batches[sheet], x.sheetIs(sheet, 1));
        }
    }

    private static void copiesFromZeroTo5() {
        for (int copies = 1; copies <= 6; copies++) {
            ThinSheets x = Setting.written();
            x.type(0, 0, copies);
            for (int copy = 0; copy < copies; copy++) {
                Check.due("copy of " + copies, copy, x.sheetIs(1 + copy, 2));
            }
            int behind = 1 + copies;
            Check.noIndex("copies of " + copies, () -> x.sheetIs(behind, 2));
        }
    }

    private static void allWordsOfWhatIsWritten() {
        ThinSheets x = new ThinSheets();
        for (int place = 0; place < PLACES; place++) {
            x.word(2, place, 99 - 9 * place);
        }
        x.lend(0, 0);
        x.write(2, 0, 0);
        for (int place = 0; place < PLACES; place++) {
            Check.due("written at " + place, 99 - 9 * place, x.reading(0, place));
        }
    }

    // "For the next batch that is typed of a sheet, whichever (what is written does not matter)"

    private static void slipsOfTheNextBatch() {
        ThinSheets x = new ThinSheets();
        Check.due("told ahead of all sheets", 1, x.slip(11, WORD, 99));
        x.lend(0, 0);
        x.write(0, 0, 0);
        x.type(0, 0, 1);
        Check.due("told ahead of all sheets, typed", 99, x.reading(1, 11));
        x.type(0, 0, 1);
        Check.due("not in the batch behind", 11, x.reading(2, 11));
    }

    private static void slipsOfWhicheverSheet() {
        ThinSheets x = Setting.written();
        x.lend(1, 1);
        x.slip(5, WORD, 55);
        x.write(2, 1, 1);
        x.type(1, 1, 1);
        Check.due("of another text, by another, with another machine", 55, x.reading(2, 5));
        x.type(0, 0, 1);
        Check.due("not of the first sheet any more", 5, x.reading(3, 5));
    }

    private static void slipsOfWhatIsWritten() {
        ThinSheets x = Setting.written();
        x.slip(0, WORD, 10);
        x.slip(1, LEAP, 0);
        x.slip(2, GUESS, 12);
        x.write(0, 0, 0);
        x.write(1, 0, 0);
        readingsAre("what is written", x, 1, 0, 1, 2, 3);
        Check.due("slips behind what is written", 4, x.slip(3, LEAP, 0));
        x.type(2, 0, 1);
        readingsAre("the next batch", x, 3, 10, OMITTED, 2, OMITTED);
    }

    // "the one told last at each"

    private static void slipToldLast() {
        ThinSheets x = Setting.written();
        x.slip(0, WORD, 50);
        Check.due("a leap in place of a word", 1, x.slip(0, LEAP, 0));
        x.slip(1, LEAP, 0);
        Check.due("a word in place of a leap", 2, x.slip(1, WORD, 51));
        x.slip(2, WORD, 52);
        Check.due("another word", 3, x.slip(2, WORD, 53));
        x.slip(3, LEAP, 0);
        Check.due("a guess in place of a leap", 4, x.slip(3, GUESS, 54));
        Check.due("the same again", 4, x.slip(3, GUESS, 54));
        x.type(0, 0, 1);
        readingsAre("told last", x, 1, OMITTED, 51, 53, 3, 4);
    }

    private static void slipsAtAllPlaces() {
        ThinSheets x = Setting.written();
        for (int place = 11; place >= 0; place--) {
            Check.due("places with slips", 12 - place, x.slip(place, WORD, 88 + place));
        }
        for (int place = 0; place < PLACES; place++) {
            Check.due("all places with slips", 12, x.slip(place, WORD, 99 - place));
        }
        x.type(0, 0, 1);
        for (int place = 0; place < PLACES; place++) {
            Check.due("slip at " + place, 99 - place, x.reading(1, place));
        }
    }

    // "Behind such a batch no slips are told."

    private static void slipsBehindABatch() {
        ThinSheets x = Setting.written();
        for (int place = 0; place < PLACES; place++) {
            x.slip(place, LEAP, 0);
        }
        x.type(0, 0, 1);
        x.type(0, 0, 1);
        for (int place = 0; place < PLACES; place++) {
            Check.due("leap at " + place, OMITTED, x.reading(1, place));
            Check.due("no leap at " + place, place, x.reading(2, place));
        }
        Check.due("one place behind", 1, x.slip(4, GUESS, 4));
        Check.due("two places behind", 2, x.slip(6, LEAP, 0));
    }

    private static void slipsInEachCopy() {
        ThinSheets x = Setting.written();
        x.slip(11, WORD, 91);
        x.slip(5, LEAP, 0);
        x.type(0, 0, 6);
        for (int sheet = 1; sheet <= 6; sheet++) {
            Check.due("word in the sheet " + sheet, 91, x.reading(sheet, 11));
            Check.due("leap in the sheet " + sheet, OMITTED, x.reading(sheet, 5));
        }
        Check.due("the sheet that was typed", 11, x.reading(0, 11));
    }

    // "with a WORD that, if the sheet has a word there; with a LEAP it is OMITTED; with a GUESS ..."

    /** A sheet that is BLANK at 0 and 1, 6 and 7, OMITTED at 2 to 5, and has words at 8 to 11. */
    private static ThinSheets withEachReading() {
        ThinSheets x = Setting.written();
        for (int place = 2; place < 6; place++) {
            x.slip(place, LEAP, 0);
        }
        x.type(0, 0, 5);
        readingsAre("each reading", x, 5, BLANK, BLANK, OMITTED, OMITTED, OMITTED, OMITTED, BLANK,
                BLANK, 8, 9, 10, 11);
        return x;
    }

    private static void slipsByReadings() {
        ThinSheets x = withEachReading();
        int[] kinds = {WORD, LEAP, WORD, LEAP, GUESS, NONE, GUESS, NONE, WORD, LEAP, GUESS, NONE};
        int[] due = {BLANK, OMITTED, OMITTED, OMITTED, OMITTED, OMITTED, 76, BLANK, 78, OMITTED,
            10, 11};
        for (int place = 0; place < PLACES; place++) {
            if (kinds[place] != NONE) {
                x.slip(place, kinds[place], kinds[place] == LEAP ? 0 : 70 + place);
            }
        }
        readingsAre("by readings", x, x.type(5, 0, 1), due);
    }

    private static void slipsOfEdgeWords() {
        ThinSheets x = withEachReading();
        x.slip(0, GUESS, 0);
        x.slip(1, GUESS, 99);
        x.slip(8, WORD, 0);
        x.slip(9, WORD, 99);
        x.slip(10, WORD, 10);
        int copy = x.type(5, 0, 1);
        Check.due("a guess of 0", 0, x.reading(copy, 0));
        Check.due("a guess of 99", 99, x.reading(copy, 1));
        Check.due("a word 0", 0, x.reading(copy, 8));
        Check.due("a word 99", 99, x.reading(copy, 9));
        Check.due("the same word", 10, x.reading(copy, 10));
    }

    // "Then, of the copy k, a word is BLANK, if the place modulo 6 is less than k less 2."

    private static void paleCopies() {
        int[] blanks = {0, 0, 0, 1, 2, 3};
        ThinSheets x = Setting.written();
        x.type(0, 0, 6);
        for (int copy = 0; copy < 6; copy++) {
            for (int place = 0; place < 6; place++) {
                boolean pale = place < blanks[copy];
                Check.due("copy " + copy + " at " + place, pale ? BLANK : place,
                        x.reading(1 + copy, place));
                Check.due("copy " + copy + " at " + (place + 6), pale ? BLANK : place + 6,
                        x.reading(1 + copy, place + 6));
            }
        }
    }

    private static void paleSlips() {
        ThinSheets x = withEachReading();
        x.slip(0, GUESS, 60);
        x.slip(1, GUESS, 61);
        x.slip(6, LEAP, 0);
        x.slip(8, WORD, 68);
        x.slip(9, WORD, 69);
        int first = x.type(5, 0, 6);
        readingsAre("the copy 2", x, first + 2, 60, 61, OMITTED, OMITTED, OMITTED, OMITTED,
                OMITTED, BLANK, 68, 69, 10, 11);
        readingsAre("the copy 3", x, first + 3, BLANK, 61, OMITTED, OMITTED, OMITTED, OMITTED,
                OMITTED, BLANK, 68, 69, 10, 11);
        readingsAre("the copy 5", x, first + 5, BLANK, BLANK, OMITTED, OMITTED, OMITTED, OMITTED,
                OMITTED, BLANK, BLANK, 69, 10, 11);
    }

    private static void paleCopiesOfPaleOnes() {
        ThinSheets x = Setting.written();
        x.type(0, 0, 6);
        x.type(6, 0, 4);
        readingsAre("the copy 0 of a pale one", x, 7, BLANK, BLANK, BLANK, 3, 4, 5, BLANK);
        readingsAre("the copy 3 of a pale one", x, 10, BLANK, BLANK, BLANK, 3, 4, 5, BLANK);
        x.type(4, 0, 6);
        readingsAre("the copy 5 of one less pale", x, 16, BLANK, BLANK, BLANK, 3, 4, 5, BLANK);
    }

    // "How unlikely it is ...: the sum over all places of 2, ...; 1, ...; 1, ...; 6, ...; 0"

    private static void unlikelyByReadings() {
        ThinSheets x = Setting.written();
        int otherWord = typed(x, 0, 0, WORD, 40);
        int omitted = typed(x, 0, 0, LEAP, 0);
        int first = x.type(0, 0, 4);
        // The copy 3 is BLANK at 0 and at 6.
        int blank = first + 3;
        Check.due("a word of the same word", 0, x.unlikely(first, 0));
        Check.due("a word of another word", 2, x.unlikely(otherWord, 0));
        Check.due("a word of another word, the other way", 2, x.unlikely(0, otherWord));
        Check.due("omitted, of a word", 1, x.unlikely(omitted, 0));
        Check.due("a word, of what is omitted", 6, x.unlikely(0, omitted));
        Check.due("omitted, of what is omitted", 0, x.unlikely(typed(x, omitted, 1, GUESS, 5),
                omitted));
        Check.due("blank, of a word", 0, x.unlikely(blank, 0));
        Check.due("a word, of a blank", 2, x.unlikely(0, blank));
        Check.due("another word, of a blank", 2, x.unlikely(otherWord, blank));
        Check.due("blank, of a blank", 0, x.unlikely(x.type(blank, 0, 1), blank));
        int blankAndOmitted = typed(x, blank, 0, LEAP, 0);
        Check.due("omitted, of a blank", 1, x.unlikely(blankAndOmitted, blank));
        Check.due("blank, of what is omitted", 0, x.unlikely(blank, blankAndOmitted));
        Check.due("any of itself", 0, x.unlikely(blankAndOmitted, blankAndOmitted));
    }

    private static void unlikelySums() {
        ThinSheets x = Setting.written();
        for (int place = 0; place < PLACES; place++) {
            x.slip(place, LEAP, 0);
        }
        int omitted = x.type(0, 0, 1);
        for (int place = 0; place < PLACES; place++) {
            x.slip(place, WORD, 99 - place);
        }
        int unlike = x.type(0, 0, 1);
        int pale = x.type(0, 0, 6) + 5;
        Check.due("words at all places, of all omitted", 72, x.unlikely(0, omitted));
        Check.due("omitted at all places", 12, x.unlikely(omitted, 0));
        Check.due("unlike words at all places", 24, x.unlikely(unlike, 0));
        Check.due("words of six blanks", 6, x.unlikely(0, pale));
        Check.due("unlike words of six blanks", 6 + 12, x.unlikely(unlike, pale));
        Check.due("six blanks of unlike words", 12, x.unlikely(pale, unlike));
        Check.due("six blanks of all omitted", 36, x.unlikely(pale, omitted));
        Check.due("all omitted of six blanks", 12, x.unlikely(omitted, pale));
        Check.due("all omitted of itself", 0, x.unlikely(omitted, omitted));
        Check.due("six blanks of words", 0, x.unlikely(pale, 0));
    }

    private static void unlikelyOfEdgeWords() {
        ThinSheets x = new ThinSheets();
        x.word(0, 11, 99);
        x.lend(0, 0);
        x.write(0, 0, 0);
        int zero = typed(x, 0, 11, WORD, 0);
        int omitted = typed(x, 0, 11, LEAP, 0);
        Check.due("99 of 0", 2, x.unlikely(0, zero));
        Check.due("0 of 99", 2, x.unlikely(zero, 0));
        Check.due("0 of what is omitted", 6, x.unlikely(zero, omitted));
        Check.due("99 of what is omitted", 6, x.unlikely(0, omitted));
        Check.due("omitted of 0", 1, x.unlikely(omitted, zero));
        Check.due("omitted of 99", 1, x.unlikely(omitted, 0));
    }

    // "Its likeliest parent is, of the sheets of its text of batches ahead of its own ..."

    private static void likeliestOfNone() {
        ThinSheets x = Setting.written();
        Check.due("of the first batch", NONE, x.likeliest(0));
        x.write(1, 0, 0);
        x.type(1, 0, 6);
        x.write(2, 0, 0);
        Check.due("of the first of its text", NONE, x.likeliest(1));
        Check.due("of the first of its text, late", NONE, x.likeliest(8));
    }

    private static void likeliestAheadOfItsOwn() {
        ThinSheets x = Setting.written();
        x.slip(0, WORD, 40);
        x.type(0, 0, 6);
        for (int sheet = 1; sheet <= 3; sheet++) {
            Check.due("none of its own batch", 0, x.likeliest(sheet));
        }
        x.type(1, 0, 1);
        x.write(0, 0, 0);
        Check.due("none of a batch behind, though it is the same", 0, x.likeliest(1));
        Check.due("none of a batch behind for the first", NONE, x.likeliest(0));
        Check.due("of the batch just ahead", 1, x.likeliest(7));
        Check.due("of the first, though others are ahead", 0, x.likeliest(8));
    }

    private static void likeliestWhateverBecameOfThem() {
        ThinSheets x = Setting.written();
        x.slip(0, WORD, 40);
        x.type(0, 0, 2);
        x.type(1, 0, 1);
        Check.due("of what is there", 1, x.likeliest(3));
        x.burn(1);
        Check.due("of what is burned", 1, x.likeliest(3));
        x.burn(3);
        Check.due("of one that is burned itself", 1, x.likeliest(3));
        Setting.makeKnown(x, 0, 9);
        x.arrest(0);
        Check.due("of what is seized", 0, x.likeliest(2));
        Check.due("of what is burned, behind an arrest", 1, x.likeliest(3));
    }

    // "that with the least number, of several the lowest"

    private static void likeliestOfSeveral() {
        ThinSheets x = Setting.written();
        x.write(0, 0, 0);
        x.write(0, 0, 0);
        int copy = typed(x, 1, 3, WORD, 40);
        Check.due("of three of the same number", 0, x.likeliest(copy));
        int last = x.type(copy, 0, 1);
        Check.due("a later one of a lower number", copy, x.likeliest(last));
        Check.due("of one alone, with the number 0", 0, x.likeliest(1));
        int other = typed(x, 0, 3, WORD, 41);
        Check.due("of all of the same number", 0, x.likeliest(other));
        int leapt = typed(x, other, 4, LEAP, 0);
        Check.due("of numbers 3 and 1", other, x.likeliest(leapt));
        int whole = x.type(other, 0, 1);
        Check.due("of the same, ahead of one with a leap", other, x.likeliest(whole));
    }

    private static void likeliestOfItsText() {
        ThinSheets x = new ThinSheets();
        x.lend(0, 0);
        x.write(0, 0, 0);
        x.word(1, 2, 30);
        x.write(1, 0, 0);
        x.write(2, 0, 0);
        x.type(2, 0, 1);
        Check.due("not of another text, though it is the same", 2, x.likeliest(3));
        x.type(1, 0, 1);
        Check.due("of its own text", 1, x.likeliest(4));
    }

    // "A word is restored from all sheets that are neither burned nor seized ..."

    private static void restoredOfNothing() {
        ThinSheets x = new ThinSheets();
        Check.due("without sheets", NONE, x.restored(0, 0));
        x.lend(0, 0);
        x.write(0, 0, 0);
        x.slip(0, LEAP, 0);
        x.type(0, 0, 1);
        x.burn(0);
        Check.due("of what is omitted", NONE, x.restored(0, 0));
        Check.due("of what is left", 1, x.restored(0, 1));
        ThinSheets y = Setting.written();
        y.type(0, 0, 4);
        for (int sheet = 0; sheet < 4; sheet++) {
            y.burn(sheet);
        }
        Check.due("of a blank", NONE, y.restored(0, 0));
        Check.due("of a blank too", NONE, y.restored(0, 6));
        Check.due("beside a blank", 7, y.restored(0, 7));
        y.burn(4);
        Check.due("of burned ones alone", NONE, y.restored(0, 7));
    }

    private static void restoredByOneVoteEach() {
        ThinSheets x = Setting.written();
        x.slip(9, WORD, 90);
        x.type(0, 0, 6);
        Check.due("six copies against one written sheet", 9, x.restored(0, 9));
        x.slip(9, WORD, 90);
        x.type(0, 0, 1);
        Check.due("two batches against one", 90, x.restored(0, 9));
        x.write(0, 0, 0);
        Check.due("two against two", 9, x.restored(0, 9));
    }

    private static void restoredByTheLowestCopy() {
        ThinSheets x = Setting.written();
        x.type(0, 0, 6);
        x.burn(0);
        for (int sheet = 1; sheet <= 3; sheet++) {
            Check.due("the copies from " + (sheet - 1) + " on at 0", 0, x.restored(0, 0));
            x.burn(sheet);
        }
        Check.due("the copies 3 to 5 at 0", NONE, x.restored(0, 0));
        Check.due("the copies 3 to 5 at 1", 1, x.restored(0, 1));
        x.burn(4);
        Check.due("the copies 4 and 5 at 1", NONE, x.restored(0, 1));
        Check.due("the copies 4 and 5 at 2", 2, x.restored(0, 2));
        x.burn(5);
        Check.due("the copy 5 at 2", NONE, x.restored(0, 2));
        Check.due("the copy 5 at 3", 3, x.restored(0, 3));
    }

    // "of several the one for which the earliest batch is"

    private static void restoredOfSeveral() {
        ThinSheets x = Setting.written();
        x.slip(5, WORD, 99);
        x.type(0, 0, 1);
        Check.due("one each", 5, x.restored(0, 5));
        x.type(1, 0, 1);
        Check.due("one and two", 99, x.restored(0, 5));
        x.type(0, 0, 1);
        Check.due("two each, the first is of the earliest", 5, x.restored(0, 5));
        x.slip(5, WORD, 1);
        x.type(0, 0, 1);
        x.type(4, 0, 1);
        Check.due("two each of three words, not the least word", 5, x.restored(0, 5));
        x.burn(0);
        Check.due("two of two words, one of the third", 99, x.restored(0, 5));
        x.type(3, 0, 1);
        Check.due("two each again, the earliest that is left", 99, x.restored(0, 5));
        x.type(5, 0, 1);
        Check.due("three for a late one", 1, x.restored(0, 5));
    }

    private static void restoredOfWhatIsLeft() {
        ThinSheets x = Setting.written();
        x.meet(0, 1);
        x.slip(8, WORD, 80);
        x.type(0, 0, 1);
        x.slip(8, WORD, 81);
        x.type(0, 0, 1);
        x.hide(2, 9);
        x.give(1, 1);
        x.burn(0);
        Check.due("what is with another has a vote", 80, x.restored(0, 8));
        Setting.makeKnown(x, 1, 9);
        x.arrest(1);
        Check.due("what is seized has no vote", 81, x.restored(0, 8));
        x.meet(9, 0);
        x.arrest(0);
        Check.due("what one arrested has hidden has a vote", 81, x.restored(0, 8));
        x.search(0, 8);
        Check.due("what is not found has a vote", 81, x.restored(0, 8));
        x.search(0, 9);
        Check.due("nothing is left", NONE, x.restored(0, 8));
    }

    private static void restoredOfItsText() {
        ThinSheets x = new ThinSheets();
        x.word(1, 3, 63);
        x.lend(0, 0);
        x.write(0, 0, 0);
        x.write(0, 0, 0);
        x.write(1, 0, 0);
        Check.due("the text 0", 3, x.restored(0, 3));
        Check.due("the text 1", 63, x.restored(1, 3));
        Check.due("the text 2", NONE, x.restored(2, 3));
    }

    private static void restoredOfEdgeWords() {
        ThinSheets x = new ThinSheets();
        x.word(0, 0, 99);
        x.word(0, 11, 0);
        x.lend(0, 0);
        x.write(0, 0, 0);
        Check.due("the word 99", 99, x.restored(0, 0));
        Check.due("the word 0", 0, x.restored(0, 11));
    }

    // Promise 10

    private static void sheetIsOfWhatIsWritten() {
        ThinSheets x = new ThinSheets();
        x.lend(3, 9);
        x.write(2, 9, 3);
        int[] due = {2, 0, 0, NONE, 3, 9, 0, 0};
        for (int what = 0; what < 8; what++) {
            Check.due("written: " + what, due[what], x.sheetIs(0, what));
        }
        x.lend(3, 8);
        Check.due("its machine, lent to another", 3, x.sheetIs(0, 4));
        Check.due("with whom it is, without the machine", 9, x.sheetIs(0, 5));
    }

    private static void sheetIsOfTheLastCopy() {
        ThinSheets x = Setting.written();
        x.lend(3, 0);
        x.type(0, 3, 6);
        x.hide(6, 9);
        int[] due = {0, 1, 5, 0, 3, 0, 0, 9};
        for (int what = 0; what < 8; what++) {
            Check.due("typed: " + what, due[what], x.sheetIs(6, what));
        }
        Check.due("hours of a copy beside it", 0, x.sheetIs(5, 7));
    }

    private static void sheetIsOfWhatIsGone() {
        ThinSheets x = Setting.written();
        x.type(0, 0, 3);
        x.hide(1, 9);
        x.hide(2, 1);
        x.burn(1);
        Setting.makeKnown(x, 0, 9);
        x.search(0, 1);
        int[] burned = {0, 1, 0, 0, 0, NONE, 0, 9};
        int[] seized = {0, 1, 1, 0, 0, NONE, 1, 1};
        int[] seizedAtOnce = {0, 1, 2, 0, 0, NONE, 1, 0};
        for (int what = 0; what < 8; what++) {
            Check.due("burned: " + what, burned[what], x.sheetIs(1, what));
            Check.due("seized: " + what, seized[what], x.sheetIs(2, what));
            Check.due("seized at once: " + what, seizedAtOnce[what], x.sheetIs(3, what));
        }
    }

    // Promise 6: "whatever became of it"

    private static void readingsOfWhatIsGone() {
        ThinSheets x = Setting.written();
        x.slip(5, LEAP, 0);
        x.type(0, 0, 4);
        x.burn(4);
        Setting.makeKnown(x, 0, 9);
        x.arrest(0);
        readingsAre("burned", x, 4, BLANK, 1, 2, 3, 4, OMITTED, BLANK, 7, 8, 9, 10, 11);
        readingsAre("seized", x, 3, 0, 1, 2, 3, 4, OMITTED, 6, 7, 8, 9, 10, 11);
        readingsAre("seized too", x, 0, 0, 1, 2, 3, 4, 5, 6, 7, 8, 9, 10, 11);
    }
}
