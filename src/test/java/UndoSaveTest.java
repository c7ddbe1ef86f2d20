/** Promises 28 to 30: undo, and saved states. */
public final class UndoSaveTest {
    private static final int BAD_VALUE = GaleNames.BAD_VALUE, NOT_POSSIBLE = GaleNames.NOT_POSSIBLE;
    /** Each of the nine changes succeeds in Offices.ordinary(), also behind all those with lower numbers. */
    private static final int CHANGES = 9, RESTORE = 8;
    private static final Due due = new Due();

    public static void main(String[] args) {
        undo();
        undoOfEach();
        undoOfSeveral();
        whatIsRecorded();
        undoKeepsPad();
        undoKeepsSlots();
        historyOfSix();
        recordsWithoutDifference();
        save();
        savedTwice();
        restoreOfEach();
        undoAndRestoreOfEachList();
        undoAndRestoreWhenFull();
        restore();
        restoreRefuses();
        due.end();
    }

    private static void undo() {
        due.promise(28, "undo");
        GaleNames x = new GaleNames();
        due.is("undo() of nothing", x.undo(), NOT_POSSIBLE);
        Due.fill(x, 0, 0, "anna,bob");
        Due.fill(x, 1, 1, "cyril");
        Due.pad(x, "dora");
        due.is("undo()", x.undo(), 1);
        due.padIs(x, "dora");
        due.is("known", x.count(1), 2);
        due.listIs(x, 1, 1);
        due.listIs(x, 0, 0, 0, 1);
        due.is("undo() again", x.undo(), 0);
        due.is("known", x.count(1), 0);
        due.is("undo() of nothing more", x.undo(), NOT_POSSIBLE);
        due.is("a name gets another number", Due.fill(x, 0, 0, "bob,anna"), 2);
        due.is("find(bob)", Due.find(x, "bob"), 0);
    }

    private static int change(GaleNames x, int change) {
        switch (change) {
            case 0: return x.set(GaleNames.LIKE, 6);
            case 1: return Due.fill(x, 0, 2, "hugo,ida");
            case 2: return x.strike(0, 0, 1);
            case 3: return x.storm(1);
            case 4: return x.harm(0, 29);
            case 5: return Due.namesake(x, "jo");
            case 6: return x.endYear();
            case 7: return x.apologise(0);
            default: return x.restore(0);
        }
    }

    /** Asks whether an office looks, in one part, like another one; both are used up by that. */
    private static void sameSeen(String what, GaleNames x, GaleNames like, int part) {
        due.is(what + ", part " + part, Seen.part(x, part).equals(Seen.part(like, part)) ? 1 : 0, 1);
    }

    private static boolean isSeen(int change) {
        for (int part = 0; part < Seen.OFFICE_PARTS; part++) {
            GaleNames x = Offices.ordinary();
            change(x, change);
            if (!Seen.part(x, part).equals(Seen.part(Offices.ordinary(), part))) return true;
        }
        return false;
    }

    private static void undoOfEach() {
        due.promise(28, "undo of each change");
        for (int change = 0; change < CHANGES; change++) {
            due.is("change " + change + " is no error", change(Offices.ordinary(), change) >= 0 ? 1 : 0, 1);
            due.is("change " + change + " is seen", isSeen(change) ? 1 : 0, 1);
            for (int part = 0; part < Seen.OFFICE_PARTS; part++) {
                GaleNames x = Offices.ordinary();
                change(x, change);
                due.is("undo()", x.undo(), 5);
                sameSeen("undo() of change " + change + " brings all back", x, Offices.ordinary(), part);
            }
        }
    }

    /** An office after so many of the nine changes, in their order. */
    private static GaleNames changed(int changes) {
        GaleNames x = Offices.ordinary();
        for (int change = 0; change < changes; change++) change(x, change);
        return x;
    }

    private static void undoOfSeveral() {
        due.promise(28, "undo of one change after another");
        for (int changes = 1; changes <= CHANGES; changes++) {
            for (int undone = 1; undone <= Math.min(changes, 6); undone++) {
                for (int part = 0; part < Seen.OFFICE_PARTS; part++) {
                    GaleNames x = changed(changes);
                    for (int i = 1; i <= undone; i++) due.is("undo() " + i, x.undo(), 6 - i);
                    sameSeen(undone + " of " + changes + " changes undone", x, changed(changes - undone), part);
                }
            }
        }
    }

    /** Each method that is a change records one state, and no other method records any. */
    private static void whatIsRecorded() {
        due.promise(28, "undo, what is recorded");
        for (int change = 0; change < RESTORE; change++) {
            GaleNames x = new GaleNames();
            Due.fill(x, 0, 0, "anna,bob,cyril");
            if (change == 3) Due.fill(x, 1, 0, "anna");
            if (change == 4) x.storm(0);
            if (change == 7) owe(x);
            int before = x.count(13);
            due.is("change " + change + " is no error", change(x, change) >= 0 ? 1 : 0, 1);
            due.is("count(13) after change " + change, x.count(13), before + 1);
        }
        GaleNames x = new GaleNames();
        Due.fill(x, 0, 0, "anna");
        x.write(0, 0);
        x.put('z');
        x.wipe();
        x.save(0);
        x.save(1);
        x.fault();
        due.is("count(13) after what is no change", x.count(13), 1);
        x.restore(1);
        due.is("count(13) after restore", x.count(13), 2);
        x.undo();
        due.is("count(13) after undo", x.count(13), 1);
    }

    /** A namesake of anna is owed an apology, by four changes. */
    private static void owe(GaleNames x) {
        Due.namesake(x, "anna");
        x.storm(0);
        x.harm(0, 10);
        x.endYear();
    }

    /** What a change did to the pad stays when it is undone, and so does what came to the pad after it. */
    private static void undoKeepsPad() {
        due.promise(28, "undo, everything except the pad");
        GaleNames x = new GaleNames();
        Due.fill(x, 0, 0, "anna");
        x.undo();
        due.padIs(x, "");
        Due.namesake(x, "bob");
        x.undo();
        due.padIs(x, "");
        x.set(GaleNames.LIKE, 4);
        Due.pad(x, "cyril");
        x.undo();
        due.padIs(x, "cyril");
        due.is("fill with it", x.fill(0, 0), 1);
        x.write(0, 0);
        x.undo();
        due.padIs(x, "cyril");
        due.is("count(1)", x.count(1), 0);
    }

    /** What was saved after a change stays saved when the change is undone; also where it was overwritten. */
    private static void undoKeepsSlots() {
        due.promise(28, "undo, everything except the slots");
        GaleNames x = new GaleNames();
        x.save(0);
        Due.fill(x, 0, 0, "anna,bob");
        x.save(0);
        x.save(1);
        due.is("undo()", x.undo(), 0);
        due.is("count(1)", x.count(1), 0);
        due.is("restore(0)", x.restore(0), 2);
        due.is("undo() of it", x.undo(), 0);
        due.is("restore(1)", x.restore(1), 2);
        due.listIs(x, 0, 0, 0, 1);
    }

    private static void historyOfSix() {
        due.promise(28, "undo, six states");
        GaleNames x = new GaleNames();
        for (int i = 1; i <= 6; i++) {
            x.set(GaleNames.HARM, i);
            due.is("changes", x.count(13), i);
        }
        for (int i = 7; i <= 15; i++) {
            x.set(GaleNames.HARM, i);
            due.is("changes", x.count(13), 6);
        }
        for (int i = 14; i >= 9; i--) {
            due.is("undo()", x.undo(), i - 9);
            due.is("HARM", x.count(9), i);
        }
        due.is("undo() of the dropped one", x.undo(), NOT_POSSIBLE);
        due.is("HARM", x.count(9), 9);
        x.set(GaleNames.HARM, 50);
        x.set(GaleNames.HARM, 51);
        x.undo();
        x.set(GaleNames.HARM, 52);
        due.is("changes after undo", x.count(13), 2);
        x.undo();
        due.is("HARM", x.count(9), 50);
        x.undo();
        due.is("HARM", x.count(9), 9);
    }

    private static void recordsWithoutDifference() {
        due.promise(28, "undo, nothing different");
        GaleNames x = new GaleNames();
        x.set(GaleNames.HARM, 40);
        x.set(GaleNames.HARM, 40);
        due.is("changes", x.count(13), 2);
        x.save(0);
        due.is("save is no change", x.count(13), 2);
        x.restore(0);
        due.is("restore is one", x.count(13), 3);
        x.restore(1);
        due.is("an error is none", x.count(13), 3);
        due.is("undo()", x.undo(), 2);
        due.is("undo()", x.undo(), 1);
        due.is("HARM", x.count(9), 40);
        due.is("undo()", x.undo(), 0);
        due.is("HARM", x.count(9), 30);
    }

    private static void save() {
        due.promise(29, "save");
        GaleNames x = new GaleNames();
        due.is("save(0) of nothing", x.save(0), 0);
        Due.fill(x, 0, 0, "anna,bob");
        due.is("save(1)", x.save(1), 2);
        due.is("save(2)", x.save(2), BAD_VALUE);
        due.is("save(-1)", x.save(-1), BAD_VALUE);
        due.is("save(highest)", x.save(Integer.MAX_VALUE), BAD_VALUE);
        due.is("changes", x.count(13), 1);
        x.undo();
        due.is("undo keeps the slots: restore(1)", x.restore(1), 2);
        due.is("restore(0)", x.restore(0), 0);
        due.is("changes", x.count(13), 2);
    }

    private static void savedTwice() {
        due.promise(29, "save, twice");
        GaleNames x = new GaleNames();
        Due.fill(x, 0, 0, "anna");
        x.save(0);
        Due.fill(x, 0, 0, "bob");
        due.is("save(0) again", x.save(0), 2);
        Due.fill(x, 0, 0, "cyril");
        due.is("restore(0)", x.restore(0), 2);
        due.listIs(x, 0, 0, 0, 1);
    }

    /** Each change, saved before or after it in each slot, and restored when all is different again. */
    private static void restoreOfEach() {
        due.promise(30, "restore of each change");
        for (int change = 0; change < CHANGES; change++) {
            for (int part = 0; part < Seen.OFFICE_PARTS; part++) {
                int slot = (change + part) % 2;
                int known = changed(change).count(1);
                GaleNames x = changed(change);
                due.is("save", x.save(slot), known);
                change(x, change);
                due.is("restore after change " + change, x.restore(slot), known);
                sameSeen("saved before change " + change, x, changed(change), part);
                GaleNames y = changed(change + 1);
                known = y.count(1);
                due.is("save", y.save(slot), known);
                for (int i = 0; i < 4; i++) y.undo();
                due.is("restore after four undone", y.restore(slot), known);
                sameSeen("saved after change " + change, y, changed(change + 1), part);
            }
        }
    }

    private static void undoAndRestoreOfEachList() {
        due.promise(30, "undo and restore of each list");
        for (int list = 0; list < 6; list++) {
            for (int place = 0; place < 8; place++) {
                int slot = place % 2;
                GaleNames x = Offices.full();
                x.save(slot);
                x.strike(list / 3, list % 3, place);
                x.undo();
                sameSeen("undo() of strike, list " + list, x, Offices.full(), 3);
                GaleNames y = Offices.full();
                y.save(slot);
                y.strike(list / 3, list % 3, place);
                y.restore(slot);
                sameSeen("restore after strike, list " + list, y, Offices.full(), 3);
            }
        }
    }

    /** The year ends with a harm of the last storm's name, which is retired then; all came back, or nothing did. */
    private static void undoAndRestoreWhenFull() {
        due.promise(30, "undo and restore when all is full");
        for (int part = 0; part < Seen.OFFICE_PARTS; part++) {
            for (int slot = 0; slot < 2; slot++) {
                GaleNames x = Offices.full();
                x.harm(15, 30);
                x.endYear();
                x.undo();
                due.is("two undone", x.undo(), 4);
                sameSeen("undo() when full", x, Offices.full(), part);
                GaleNames y = Offices.full();
                due.is("save", y.save(slot), 40);
                y.harm(15, 30);
                y.endYear();
                y.restore(1 - slot);
                due.is("restore", y.restore(slot), 40);
                sameSeen("restore when full", y, Offices.full(), part);
            }
        }
    }

    private static void restore() {
        due.promise(30, "restore");
        GaleNames x = Offices.ordinary();
        due.is("restore(0)", x.restore(0), 4);
        due.padIs(x, "gus");
        due.is("changes", x.count(13), 6);
        due.is("the year", x.count(0), 0);
        due.is("storms", x.count(3), 3);
        x.harm(2, 7);
        x.strike(0, 0, 0);
        due.is("the slot keeps it: restore(0)", x.restore(0), 4);
        due.is("its harm", x.ofStorm(2, 2), 0);
        due.listIs(x, 0, 0, 0, 1, 2);
        due.is("the other slot: restore(1)", x.restore(1), 6);
        due.is("its harm", x.ofStorm(0, 2), 0);
        due.is("restore(0) once more", x.restore(0), 4);
        for (int i = 5; i >= 3; i--) due.is("undo() of a restore", x.undo(), i);
        due.is("undone: what was struck", x.listed(0, 0, 0), 1);
        due.is("undone: harm", x.ofStorm(2, 2), 7);
        due.is("undo() of strike", x.undo(), 2);
        due.is("undo() of harm", x.undo(), 1);
        due.is("undo() of the first restore", x.undo(), 0);
        due.is("the year", x.count(0), 1);
        due.is("storms", x.count(3), 1);
        due.is("its harm", x.ofStorm(0, 2), 5);
        due.padIs(x, "gus");
        due.is("the slot keeps it yet: restore(0)", x.restore(0), 4);
    }

    private static void restoreRefuses() {
        due.promise(30, "restore, errors");
        GaleNames x = new GaleNames();
        due.is("restore(2)", x.restore(2), BAD_VALUE);
        due.is("restore(-1)", x.restore(-1), BAD_VALUE);
        due.is("restore(0) with nothing in it", x.restore(0), NOT_POSSIBLE);
        due.is("restore(1) with nothing in it", x.restore(1), NOT_POSSIBLE);
        x.save(1);
        due.is("restore(0) with nothing in it yet", x.restore(0), NOT_POSSIBLE);
        due.is("changes", x.count(13), 0);
        due.is("restore(1)", x.restore(1), 0);
        due.is("changes", x.count(13), 1);
    }
}
