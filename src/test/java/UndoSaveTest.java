/** Promises 28 to 30: undo, and saved states. */
public final class UndoSaveTest {
    private static final int BAD_VALUE = GaleNames.BAD_VALUE, NOT_POSSIBLE = GaleNames.NOT_POSSIBLE;
    private static final Due due = new Due();

    public static void main(String[] args) {
        undo();
        undoOfEach();
        historyOfSix();
        recordsWithoutDifference();
        save();
        savedTwice();
        restore();
        due.end();
    }

    private static void undo() {
        due.promise(28, "undo");
        GaleNames x = new GaleNames();
        due.is("undo() of nothing", x.undo(), NOT_POSSIBLE);
        Due.fill(x, 0, 0, "anna,bob");
        Due.fill(x, 1, 1, "cyril");
        Due.pad(x, "dora");
        due.is("undo()", x.undo(), 1);
        due.padIs(x, "dora");
        due.is("known", x.count(1), 2);
        due.listIs(x, 1, 1);
        due.listIs(x, 0, 0, 0, 1);
        due.is("undo() again", x.undo(), 0);
        due.is("known", x.count(1), 0);
        due.is("undo() of nothing more", x.undo(), NOT_POSSIBLE);
        due.is("a name gets another number", Due.fill(x, 0, 0, "bob,anna"), 2);
        due.is("find(bob)", Due.find(x, "bob"), 0);
    }

    /** Each change, and that it brings back everything. */
    private static void undoOfEach() {
        due.promise(28, "undo of each change");
        GaleNames x = new GaleNames();
        Due.fill(x, 0, 0, "anna,bob");
        Due.fill(x, 1, 0, "bob,anna,cyril");
        Due.fill(x, 0, 2, "dora");
        Due.namesake(x, "bob");
        x.set(GaleNames.HARM, 99);
        for (int i = 0; i < 2; i++) {
            x.storm(0);
            x.storm(1);
        }
        x.harm(1, 50);
        x.save(0);
        for (int change = 0; change < 9; change++) {
            Due.pad(x, change == 1 ? "eve,frank" : "gus");
            String before = view(x);
            due.is("change " + change + " is no error", change(x, change) >= 0 ? 1 : 0, 1);
            if (change != 8) due.is("change " + change + " is seen", view(x).equals(before) ? 1 : 0, 0);
            x.undo();
            due.is("undo() of change " + change + " brings all back", view(x).equals(before) ? 1 : 0, 1);
            if (change == 6) x.endYear();
        }
    }

    private static int change(GaleNames x, int change) {
        switch (change) {
            case 0: return x.set(GaleNames.LIKE, 6);
            case 1: return x.fill(0, 1);
            case 2: return x.strike(1, 0, 1);
            case 3: return x.storm(1);
            case 4: return x.harm(2, 9);
            case 5: return x.namesake();
            case 6: return x.endYear();
            case 7: return x.apologise(0);
            default: return x.restore(0);
        }
    }

    /** All that undo brings back, as a text. */
    private static String view(GaleNames x) {
        StringBuilder view = new StringBuilder();
        for (int what = 0; what < 12; what++) view.append(x.count(what)).append(' ');
        for (int name = 0; name < x.count(1); name++) {
            for (int what = 0; what < 7; what++) view.append(x.of(name, what)).append(' ');
            for (int index = 0; index < 6; index++) view.append(x.letter(name, index)).append(' ');
        }
        for (int list = 0; list < 6; list++) {
            for (int place = 0; place < 9; place++) view.append(x.listed(list / 3, list % 3, place)).append(' ');
        }
        for (int storm = 0; storm < 16; storm++) {
            for (int what = 0; what < 4; what++) view.append(x.ofStorm(storm, what)).append(' ');
        }
        for (int namesake = 0; namesake < 10; namesake++) {
            for (int what = 0; what < 3; what++) view.append(x.ofNamesake(namesake, what)).append(' ');
        }
        return view.toString();
    }

    private static void historyOfSix() {
        due.promise(28, "undo, six states");
        GaleNames x = new GaleNames();
        for (int i = 1; i <= 6; i++) {
            x.set(GaleNames.HARM, i);
            due.is("changes", x.count(13), i);
        }
        for (int i = 7; i <= 15; i++) {
            x.set(GaleNames.HARM, i);
            due.is("changes", x.count(13), 6);
        }
        for (int i = 14; i >= 9; i--) {
            due.is("undo()", x.undo(), i - 9);
            due.is("HARM", x.count(9), i);
        }
        due.is("undo() of the dropped one", x.undo(), NOT_POSSIBLE);
        due.is("HARM", x.count(9), 9);
        x.set(GaleNames.HARM, 50);
        x.set(GaleNames.HARM, 51);
        x.undo();
        x.set(GaleNames.HARM, 52);
        due.is("changes after undo", x.count(13), 2);
        x.undo();
        due.is("HARM", x.count(9), 50);
        x.undo();
        due.is("HARM", x.count(9), 9);
    }

    private static void recordsWithoutDifference() {
        due.promise(28, "undo, nothing different");
        GaleNames x = new GaleNames();
        x.set(GaleNames.HARM, 40);
        x.set(GaleNames.HARM, 40);
        due.is("changes", x.count(13), 2);
        x.save(0);
        due.is("save is no change", x.count(13), 2);
        x.restore(0);
        due.is("restore is one", x.count(13), 3);
        x.restore(1);
        due.is("an error is none", x.count(13), 3);
        due.is("undo()", x.undo(), 2);
        due.is("undo()", x.undo(), 1);
        due.is("HARM", x.count(9), 40);
        due.is("undo()", x.undo(), 0);
        due.is("HARM", x.count(9), 30);
    }

    private static void save() {
        due.promise(29, "save");
        GaleNames x = new GaleNames();
        due.is("save(0) of nothing", x.save(0), 0);
        Due.fill(x, 0, 0, "anna,bob");
        due.is("save(1)", x.save(1), 2);
        due.is("save(2)", x.save(2), BAD_VALUE);
        due.is("save(-1)", x.save(-1), BAD_VALUE);
        due.is("save(highest)", x.save(Integer.MAX_VALUE), BAD_VALUE);
        due.is("changes", x.count(13), 1);
        x.undo();
        due.is("undo keeps the slots: restore(1)", x.restore(1), 2);
        due.is("restore(0)", x.restore(0), 0);
        due.is("changes", x.count(13), 2);
    }

    private static void savedTwice() {
        due.promise(29, "save, twice");
        GaleNames x = new GaleNames();
        Due.fill(x, 0, 0, "anna");
        x.save(0);
        Due.fill(x, 0, 0, "bob");
        due.is("save(0) again", x.save(0), 2);
        Due.fill(x, 0, 0, "cyril");
        due.is("restore(0)", x.restore(0), 2);
        due.listIs(x, 0, 0, 0, 1);
    }

    private static void restore() {
        due.promise(30, "restore");
        GaleNames x = new GaleNames();
        due.is("restore(2)", x.restore(2), BAD_VALUE);
        due.is("restore(-1)", x.restore(-1), BAD_VALUE);
        due.is("restore(1) with nothing in it", x.restore(1), NOT_POSSIBLE);
        Due.fill(x, 0, 0, "anna,bob");
        Due.namesake(x, "anna");
        x.storm(0);
        x.harm(0, 40);
        x.set(GaleNames.SORRY, 20);
        x.save(1);
        String saved = view(x);
        x.endYear();
        x.apologise(0);
        Due.fill(x, 1, 1, "cyril");
        String later = view(x);
        Due.pad(x, "dora");
        due.is("restore(0) with nothing in it", x.restore(0), NOT_POSSIBLE);
        due.is("restore(1)", x.restore(1), 2);
        due.is("all is as it was saved", view(x).equals(saved) ? 1 : 0, 1);
        due.padIs(x, "dora");
        due.is("changes", x.count(13), 6);
        x.harm(0, 1);
        due.is("the slot keeps it: restore(1)", x.restore(1), 2);
        due.is("all is as it was saved", view(x).equals(saved) ? 1 : 0, 1);
        x.undo();
        due.is("undone: harm", x.ofStorm(0, 2), 41);
        x.undo();
        due.is("undone: as it was saved", view(x).equals(saved) ? 1 : 0, 1);
        due.is("undo() of the first restore", x.undo(), 3);
        due.is("all is as it was before it", view(x).equals(later) ? 1 : 0, 1);
        due.is("the slot keeps it yet: restore(1)", x.restore(1), 2);
        due.is("all is as it was saved", view(x).equals(saved) ? 1 : 0, 1);
    }
}
