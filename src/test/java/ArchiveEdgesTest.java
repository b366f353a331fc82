/** The sentences on the archive, on the 512 calls and on the constants, and promises 28 to 30. */
public final class ArchiveEdgesTest {

    private static final int NONE = ThinSheets.NONE;
    private static final int COVERED = ThinSheets.COVERED;

    private ArchiveEdgesTest() {
    }

    public static void main(String[] args) {
        noLines();
        linesFromZero();
        openOfNothing();
        openForGood();
        closedAtFirst();
        coveredAtFirst();
        coveredByLife();
        coveredByLifeAheadOfAll();
        coveredForEach();
        nobodyIsNotCovered();
        nightsAndKindsAreNotCovered();
        coveredWordsElsewhere();
        call512();
        call512OfSearches();
        behindCall512();
        askingChangesNothing();
        Check.end();
    }

    /** 9 informs of 0, who is arrested, and opens 9. */
    private static ThinSheets told() {
        ThinSheets x = new ThinSheets();
        Setting.makeKnown(x, 0, 9);
        x.strong(0, 0);
        x.arrest(0);
        x.pass(1);
        return x;
    }

    // "Lines are numbered from 0; they can be read when the archive has been opened."

    private static void noLines() {
        ThinSheets x = new ThinSheets();
        Check.noIndex("no line, closed", () -> x.line(0, 0));
        Check.due("no line", 0, x.open());
        Check.noIndex("no line, open", () -> x.line(0, 0));
        Check.noIndex("no line below", () -> x.line(-1, 0));
        Setting.makeKnown(x, 0, 9);
        Check.due("the line 0", ThinSheets.INFORMED, x.line(0, 1));
        Check.noIndex("no line 1", () -> x.line(1, 0));
    }

    private static void linesFromZero() {
        ThinSheets x = told();
        Setting.linesAre("told", x, new int[][] {{0, ThinSheets.INFORMED, 9, 0},
            {0, ThinSheets.ARRESTED, NONE, 0}, {1, ThinSheets.OPENED, 0, 9}});
        Check.noIndex("behind the last", () -> x.line(3, 0));
        x.search(9, 0);
        Check.due("the next one", ThinSheets.SEARCHED, x.line(3, 1));
    }

    // Promise 29: "Opens the archive, for good; returns how many lines there are."

    private static void openOfNothing() {
        ThinSheets x = new ThinSheets();
        Check.due("open", 0, x.open());
        Check.due("open again", 0, x.open());
    }

    private static void openForGood() {
        ThinSheets x = told();
        Check.due("open", 3, x.open());
        Check.due("open again", 3, x.open());
        Check.due("is open", 0, x.line(0, 0));
        x.amnesty();
        x.arrest(9);
        x.pass(30);
        x.life(0, true, false);
        Check.due("is open yet", 1, x.line(3, 0));
        Check.due("more lines", 4, x.open());
    }

    private static void closedAtFirst() {
        ThinSheets x = told();
        for (int number = 0; number < 3; number++) {
            int line = number;
            Check.noState("closed", () -> x.line(line, 0));
        }
        ThinSheets other = told();
        other.open();
        Check.noState("another one is open", () -> x.line(0, 0));
        Check.due("known by lines that are closed", true, x.isKnownAnew(9));
    }

    // "A name in it is COVERED, if who has it lives, as all do at first, and has not consented."

    private static void coveredAtFirst() {
        ThinSheets x = told();
        x.open();
        for (int line = 0; line < 3; line++) {
            Check.due("of whom, at first", COVERED, x.line(line, 3));
        }
        Check.due("who informed, at first", COVERED, x.line(0, 2));
        Check.due("who opened, at first", COVERED, x.line(2, 2));
    }

    private static void coveredByLife() {
        ThinSheets x = told();
        x.open();
        x.life(0, true, true);
        Check.due("lives, and has consented", 0, x.line(0, 3));
        x.life(0, false, true);
        Check.due("does not live, and has consented", 0, x.line(0, 3));
        x.life(0, true, false);
        Check.due("lives, and has not consented", COVERED, x.line(0, 3));
        x.life(0, false, false);
        Check.due("does not live, and has not consented", 0, x.line(0, 3));
        Check.due("who opened", 0, x.line(2, 2));
        x.life(0, true, false);
        Check.due("who opened, lives", COVERED, x.line(2, 2));
        Check.due("another", COVERED, x.line(0, 2));
    }

    private static void coveredByLifeAheadOfAll() {
        ThinSheets x = new ThinSheets();
        x.life(0, false, false);
        x.life(9, true, true);
        x.life(9, true, false);
        Setting.makeKnown(x, 0, 9);
        x.open();
        Check.due("told ahead of the line", 0, x.line(0, 3));
        Check.due("told last", COVERED, x.line(0, 2));
    }

    private static void coveredForEach() {
        for (int named = 0; named < 10; named++) {
            ThinSheets x = new ThinSheets();
            int informer = named == 9 ? 8 : 9;
            x.informer(informer);
            for (int person = 0; person < 10; person++) {
                if (person != informer) {
                    x.meet(informer, person);
                }
            }
            x.life(named, false, false);
            Check.due("lines", 9, x.open());
            for (int line = 0; line < 9; line++) {
                int person = line < informer ? line : line + 1;
                Check.due("of " + person, person == named ? named : COVERED, x.line(line, 3));
                Check.due("by the informer", COVERED, x.line(line, 2));
            }
        }
    }

    private static void nobodyIsNotCovered() {
        ThinSheets x = Setting.written();
        x.file(0);
        x.informer(0);
        x.arrest(0);
        x.search(0, 0);
        Check.due("lines", 3, x.open());
        for (int line = 0; line < 3; line++) {
            Check.due("nobody did it", NONE, x.line(line, 2));
            Check.due("of one who is covered", COVERED, x.line(line, 3));
        }
    }

    private static void nightsAndKindsAreNotCovered() {
        ThinSheets x = told();
        x.open();
        int[] nights = {0, 0, 1};
        int[] kinds = {ThinSheets.INFORMED, ThinSheets.ARRESTED, ThinSheets.OPENED};
        for (int line = 0; line < 3; line++) {
            Check.due("its night", nights[line], x.line(line, 0));
            Check.due("its kind", kinds[line], x.line(line, 1));
        }
    }

    /** Only the archive covers names. */
    private static void coveredWordsElsewhere() {
        ThinSheets x = Setting.written();
        x.lend(0, 0);
        x.open();
        Check.due("with whom it is", 0, x.sheetIs(0, 5));
        Check.due("with whom it was", 0, x.lend(0, 1));
        x.file(0);
        Check.due("with whom it was noted", 1, x.file(0));
    }

    // "An object is used for at most 512 calls after it has been made"

    private static void call512() {
        ThinSheets x = new ThinSheets();
        for (int call = 1; call <= 511; call++) {
            Check.due("call " + call, call == 1 ? 5 : call % 2 == 0 ? 60 : 61,
                    x.word(0, 5, call % 2 == 0 ? 61 : 60));
        }
        Check.due("call 512", 60, x.word(0, 5, 5));
    }

    private static void call512OfSearches() {
        ThinSheets x = new ThinSheets();
        Setting.makeKnown(x, 9, 0);
        x.open();
        x.life(9, false, false);
        for (int call = 5; call <= 510; call++) {
            Check.due("search", 0, x.search(9, 9));
        }
        Check.due("call 511: the last line", 9, x.line(506, 3));
        Check.due("call 512: lines", 507, x.open());
    }

    /** What later calls answer is free, but they end, and throw what the document names alone. */
    private static void behindCall512() {
        ThinSheets x = told();
        x.open();
        for (int call = 0; call < 1000; call++) {
            free("search", () -> x.search(0, 9));
            free("arrest", () -> x.arrest(9));
            free("line", () -> x.line(x.open() - 1, 3));
            free("pass", () -> x.pass(30));
            free("lend", () -> x.lend(0, 1));
            free("write", () -> x.write(0, 1, 0));
            free("type", () -> x.type(0, 0, 6));
            free("isKnownAnew", () -> x.isKnownAnew(9));
            free("amnesty", () -> x.amnesty());
        }
    }

    private static void free(String what, Check.Call call) {
        String got = Check.outcome(call);
        if (got.endsWith("Exception") && !got.equals("IndexOutOfBoundsException")
                && !got.equals("IllegalStateException")) {
            Check.report("behind the call 512, " + what + " answered " + got);
        }
    }

    // "readings, parents, words, those who had something, those who are known, risks and lines can
    // be asked for": asking changes nothing

    private static void askingChangesNothing() {
        for (Story story : new Story[] {Story.ORDINARY, Story.CROWDED}) {
            story.staysAsItIs("reading", x -> x.reading(6, 0));
            story.staysAsItIs("unlikely", x -> x.unlikely(6, 1));
            story.staysAsItIs("likeliest", x -> x.likeliest(6));
            story.staysAsItIs("restored", x -> x.restored(0, 0) + x.restored(1, 5));
            story.staysAsItIs("sheetIs", x -> x.sheetIs(6, 7));
            story.staysAsItIs("whoHad", x -> x.whoHad(0, 0, 0));
            story.staysAsItIs("knows", x -> x.knows(3));
            story.staysAsItIs("isKnown", x -> x.isKnown(9));
            story.staysAsItIs("isKnownAnew", x -> x.isKnownAnew(9));
            story.staysAsItIs("risk", x -> x.risk(3, 30));
        }
        Story.OPEN.staysAsItIs("line", x -> x.line(0, 3) + x.line(7, 2));
        Story.OPEN.staysAsItIs("open", x -> x.open());
    }
}
