/** What many tests begin with. */
final class Setting {

    private Setting() {
    }

    /** The machine 0 is with the person 0, who wrote the sheet 0 of the text 0. */
    static ThinSheets written() {
        ThinSheets x = new ThinSheets();
        x.lend(0, 0);
        x.write(0, 0, 0);
        return x;
    }

    /** Makes somebody known, by an informer who meets him and nobody else. */
    static void makeKnown(ThinSheets x, int person, int informer) {
        x.informer(informer);
        x.meet(informer, person);
    }

    /** Nobody lives any more, so that all names can be read. */
    static void nameAll(ThinSheets x) {
        for (int person = 0; person < 10; person++) {
            x.life(person, false, false);
        }
    }

    /** All lines there are have to be these, each its night, its kind, who did it and of whom. */
    static void linesAre(String what, ThinSheets x, int[]... due) {
        nameAll(x);
        Check.due(what + ": lines", due.length, x.open());
        for (int line = 0; line < due.length; line++) {
            for (int part = 0; part < 4; part++) {
                int asked = line;
                int which = part;
                String got = Check.outcome(() -> x.line(asked, which));
                if (!got.equals(String.valueOf(due[line][part]))) {
                    Check.report(what + ": line(" + line + ", " + part + ") answered " + got
                            + ", due is " + due[line][part]);
                }
            }
        }
    }

    /** Just these people are known, by both of the calls that tell it. */
    static void knownAre(String what, ThinSheets x, int... people) {
        int due = setOf(people);
        for (int person = 0; person < 10; person++) {
            boolean known = (due & 1 << person) != 0;
            Check.due(what + ": isKnown(" + person + ")", known, x.isKnown(person));
            Check.due(what + ": isKnownAnew(" + person + ")", known, x.isKnownAnew(person));
        }
    }

    static int setOf(int... people) {
        int set = 0;
        for (int person : people) {
            set |= 1 << person;
        }
        return set;
    }
}
