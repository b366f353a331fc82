import java.util.ArrayList;
import java.util.List;

/**
 * What may have happened to an object. Each question is put to an object made anew, so that none
 * disturbs another one, and so that none is asked behind its 512th call.
 */
enum Story {

    /** Nothing has happened yet. */
    NEW {
        @Override
        void tell(ThinSheets x) {
        }
    },

    /**
     * The sheets 0, 4 and 5 are with 0, the sheets 1 and 6 with 1, the sheets 2 and 7 with 3, who
     * is arrested, the sheet 3 is burned, the sheet 8 is seized; 7 and 8 are of the text 1, the
     * others of the text 0, none is of the text 2. The machine 0 is with 0, the machine 1 with 3,
     * the machine 2 was seized, the machine 3 is with nobody. Known are 0, 1, 3, 4 and 6; 3 and 6
     * are arrested; 5 is an informer. Three slips are told. It is the night 4, and the archive is
     * closed.
     */
    ORDINARY {
        @Override
        void tell(ThinSheets x) {
            writeAndGive(x);
            hideAndFile(x);
            informAndArrest(x);
            x.slip(1, ThinSheets.WORD, 88);
            x.slip(2, ThinSheets.LEAP, 0);
            x.slip(0, ThinSheets.GUESS, 33);
        }
    },

    /** The same with an archive that is open. */
    OPEN {
        @Override
        void tell(ThinSheets x) {
            ORDINARY.tell(x);
            x.open();
        }
    },

    /** There are 37 sheets, all with 0 as is the machine 0; one is burned, and a slip is told. */
    CROWDED {
        @Override
        void tell(ThinSheets x) {
            x.lend(0, 0);
            x.write(0, 0, 0);
            for (int batch = 0; batch < 6; batch++) {
                x.type(0, 0, 6);
            }
            x.burn(36);
            x.slip(3, ThinSheets.WORD, 77);
        }
    },

    /** There are 40 sheets, and a slip is told. */
    FULL {
        @Override
        void tell(ThinSheets x) {
            CROWDED.tell(x);
            x.type(0, 0, 3);
            x.slip(4, ThinSheets.LEAP, 0);
        }
    },

    /** It is the night 980; 2, who is arrested, opens somebody in the night 981. */
    LATE {
        @Override
        void tell(ThinSheets x) {
            for (int month = 0; month < 32; month++) {
                x.pass(30);
            }
            x.informer(1);
            x.meet(1, 2);
            x.pass(17);
            x.arrest(2);
            x.pass(3);
        }
    };

    private static final int SHEETS = 40;
    private static final int PLACES = 12;
    private static final int PEOPLE = 10;
    private static final int SLICES = 14;

    private List<String> undisturbed = null;

    abstract void tell(ThinSheets x);

    ThinSheets made() {
        ThinSheets x = new ThinSheets();
        tell(x);
        return x;
    }

    /** The call has to throw just this, and may change nothing. */
    void refuses(String what, Class<? extends RuntimeException> want, Check.Act call) {
        ThinSheets x = made();
        Check.refused(this + ": " + what, want, () -> call.on(x));
        staysAsItIs(what, call);
    }

    void noIndex(String what, Check.Act call) {
        refuses(what, IndexOutOfBoundsException.class, call);
    }

    void noArgument(String what, Check.Act call) {
        refuses(what, IllegalArgumentException.class, call);
    }

    void noState(String what, Check.Act call) {
        refuses(what, IllegalStateException.class, call);
    }

    /** Whatever can be asked has the answer that it has without the call. */
    void staysAsItIs(String what, Check.Act call) {
        if (undisturbed == null) {
            undisturbed = portrait(x -> 0);
        }
        List<String> now = portrait(call);
        for (int k = 0; k < now.size(); k++) {
            if (!now.get(k).equals(undisturbed.get(k))) {
                Check.report(this + ": " + what + " changed something: " + now.get(k)
                        + ", due is " + undisturbed.get(k));
                return;
            }
        }
    }

    /** A number that is out of range, wherever it stands: a little, and as far as there are ints. */
    void noIndexBeside(String what, int count, Check.ActOf call) {
        for (int value : Check.beside(0, count - 1)) {
            noIndex(what + " " + value, x -> call.on(x, value));
        }
    }

    void noArgumentBeside(String what, int least, int greatest, Check.ActOf call) {
        for (int value : Check.beside(least, greatest)) {
            noArgument(what + " " + value, x -> call.on(x, value));
        }
    }

    private List<String> portrait(Check.Act call) {
        List<String> answers = new ArrayList<>();
        for (int slice = 0; slice < SLICES; slice++) {
            ThinSheets x = made();
            Check.outcome(() -> call.on(x));
            askSlice(slice, x, answers);
        }
        return answers;
    }

    private static void askSlice(int slice, ThinSheets x, List<String> answers) {
        switch (slice) {
            case 0:
                askReadings(x, 0, SHEETS / 2, answers);
                break;
            case 1:
                askReadings(x, SHEETS / 2, SHEETS, answers);
                break;
            case 2:
                askSheets(x, answers);
                break;
            case 3:
                askTexts(x, answers);
                break;
            case 4:
                askWords(x, answers);
                break;
            case 5:
                askWhatIsWritten(x, answers);
                break;
            case 6:
                askSlips(x, 0, answers);
                break;
            case 7:
                askSlips(x, 6, answers);
                break;
            case 8:
                askPeople(x, answers);
                break;
            case 9:
                askLines(x, answers);
                break;
            case 10:
                askLivesInLines(x, answers);
                break;
            case 11:
                askNights(x, answers);
                break;
            case 12:
                askMachines(x, answers);
                break;
            default:
                askInformers(x, answers);
                break;
        }
    }

    private static void ask(List<String> answers, String what, Check.Call call) {
        answers.add(what + " answered " + Check.outcome(call));
    }

    private static void askReadings(ThinSheets x, int from, int end, List<String> answers) {
        for (int k = from * PLACES; k < end * PLACES; k++) {
            int sheet = k / PLACES;
            int place = k % PLACES;
            ask(answers, "reading(" + sheet + ", " + place + ")", () -> x.reading(sheet, place));
        }
    }

    private static void askSheets(ThinSheets x, List<String> answers) {
        for (int k = 0; k < SHEETS * 8; k++) {
            int sheet = k / 8;
            int what = k % 8;
            ask(answers, "sheetIs(" + sheet + ", " + what + ")", () -> x.sheetIs(sheet, what));
        }
        for (int k = 0; k < SHEETS; k++) {
            int sheet = k;
            ask(answers, "likeliest(" + sheet + ")", () -> x.likeliest(sheet));
        }
    }

    private static void askTexts(ThinSheets x, List<String> answers) {
        for (int k = 0; k < 3 * PLACES; k++) {
            int text = k / PLACES;
            int place = k % PLACES;
            String where = "(" + text + ", " + place;
            ask(answers, "restored" + where + ")", () -> x.restored(text, place));
            ask(answers, "whoHad" + where + ")", () -> x.whoHad(text, place, place));
            ask(answers, "whoHad" + where + ", blank)", () -> x.whoHad(text, place, -1));
            ask(answers, "whoHad" + where + ", omitted)", () -> x.whoHad(text, place, -2));
        }
    }

    private static void askWords(ThinSheets x, List<String> answers) {
        for (int k = 0; k < 3 * PLACES; k++) {
            int text = k / PLACES;
            int place = k % PLACES;
            ask(answers, "word(" + text + ", " + place + ")", () -> x.word(text, place, 1));
        }
    }

    private static void askWhatIsWritten(ThinSheets x, List<String> answers) {
        x.amnesty();
        ask(answers, "lend(3, 9)", () -> x.lend(3, 9));
        for (int k = 0; k < 3; k++) {
            int text = k;
            String made = Check.outcome(() -> x.write(text, 9, 3));
            answers.add("write(" + text + ", 9, 3) answered " + made);
            for (int place = 0; !made.endsWith("Exception") && place < PLACES; place++) {
                int at = place;
                ask(answers, "what is written of " + text + " at " + place,
                        () -> x.reading(Integer.parseInt(made), at));
            }
        }
    }

    /** Slips show in what is typed, guesses where the sheet that is typed is blank. */
    private static void askSlips(ThinSheets x, int sheet, List<String> answers) {
        x.amnesty();
        ask(answers, "lend(0)", () -> x.lend(0, x.sheetIs(sheet, 5)));
        String made = Check.outcome(() -> x.type(sheet, 0, 1));
        answers.add("type(" + sheet + ", 0, 1) answered " + made);
        for (int place = 0; !made.endsWith("Exception") && place < PLACES; place++) {
            int at = place;
            ask(answers, "what is typed of " + sheet + " at " + place,
                    () -> x.reading(Integer.parseInt(made), at));
        }
        ask(answers, "slips", () -> x.slip(11, ThinSheets.LEAP, 0));
    }

    private static void askPeople(ThinSheets x, List<String> answers) {
        ask(answers, "slips", () -> x.slip(11, ThinSheets.LEAP, 0));
        for (int k = 0; k < PEOPLE; k++) {
            int person = k;
            ask(answers, "knows(" + k + ")", () -> x.knows(person));
            ask(answers, "isKnown(" + k + ")", () -> x.isKnown(person));
            ask(answers, "isKnownAnew(" + k + ")", () -> x.isKnownAnew(person));
            ask(answers, "risk(" + k + ", 4)", () -> x.risk(person, 4));
            ask(answers, "strong(" + k + ")", () -> x.strong(person, 3));
            ask(answers, "lend(3, " + k + ")", () -> x.lend(3, person));
        }
        ask(answers, "amnesty", () -> x.amnesty());
    }

    private static void askLines(ThinSheets x, List<String> answers) {
        ask(answers, "line(0, 0) ahead of open()", () -> x.line(0, 0));
        askAllLines(x, answers);
    }

    private static void askLivesInLines(ThinSheets x, List<String> answers) {
        for (int person = 0; person < PEOPLE; person++) {
            x.life(person, false, false);
        }
        askAllLines(x, answers);
    }

    private static void askAllLines(ThinSheets x, List<String> answers) {
        int lines = x.open();
        answers.add("open answered " + lines);
        for (int k = 0; k < 4 * lines; k++) {
            int line = k / 4;
            int what = k % 4;
            ask(answers, "line(" + line + ", " + what + ")", () -> x.line(line, what));
        }
    }

    private static void askNights(ThinSheets x, List<String> answers) {
        for (int night = 0; night < 12; night++) {
            ask(answers, "pass(1)", () -> x.pass(1));
        }
        askLivesInLines(x, answers);
    }

    private static void askMachines(ThinSheets x, List<String> answers) {
        for (int k = 0; k < 4; k++) {
            int machine = k;
            ask(answers, "file(" + k + ")", () -> x.file(machine));
        }
        x.amnesty();
        for (int k = 0; k < 4; k++) {
            int machine = k;
            ask(answers, "lend(" + k + ", 9)", () -> x.lend(machine, 9));
            ask(answers, "file(" + k + ")", () -> x.file(machine));
        }
        askLivesInLines(x, answers);
    }

    private static void askInformers(ThinSheets x, List<String> answers) {
        for (int k = 0; k < PEOPLE; k++) {
            int person = k;
            ask(answers, "informer(" + k + ")", () -> x.informer(person));
        }
        askLivesInLines(x, answers);
    }

    private static void writeAndGive(ThinSheets x) {
        x.word(1, 0, 50);
        x.word(2, 11, 99);
        x.lend(0, 0);
        x.lend(1, 3);
        x.lend(2, 4);
        x.write(0, 0, 0);
        x.slip(0, ThinSheets.WORD, 70);
        x.slip(5, ThinSheets.LEAP, 0);
        x.type(0, 0, 6);
        x.meet(0, 1);
        x.meet(0, 3);
        x.meet(3, 4);
        x.meet(3, 8);
        x.give(1, 1);
        x.give(2, 3);
        x.give(6, 1);
        x.write(1, 3, 1);
        x.write(1, 4, 2);
    }

    private static void hideAndFile(ThinSheets x) {
        x.hide(2, 4);
        x.hide(1, 2);
        x.hide(7, 6);
        x.burn(3);
        x.file(0);
        x.file(1);
        x.file(2);
        x.life(3, false, false);
        x.life(5, true, true);
    }

    private static void informAndArrest(ThinSheets x) {
        x.informer(5);
        x.meet(5, 3);
        x.meet(5, 6);
        x.meet(5, 4);
        x.pass(2);
        x.search(4, 5);
        x.strong(3, 1);
        x.arrest(3);
        x.arrest(6);
        x.pass(2);
        x.meet(5, 1);
    }
}
