/** The empty and the full list, pad, year of storms, row of namesakes, row of known names, history and slot. */
public final class EmptyFullTest {
    private static final int NO_SUCH = GaleNames.NO_SUCH, BAD_TEXT = GaleNames.BAD_TEXT;
    private static final int TOO_MANY = GaleNames.TOO_MANY, NOT_POSSIBLE = GaleNames.NOT_POSSIBLE, NONE = GaleNames.NONE;
    private static final Due due = new Due();

    public static void main(String[] args) {
        for (int list = 0; list < 6; list++) {
            emptyList(list / 3, list % 3);
            fullList(list / 3, list % 3);
            listFilledUp(list / 3, list % 3);
        }
        longestList();
        emptyPad();
        fullPad();
        padFilledUp();
        noStorms();
        sixteenStorms();
        stormsUndoneAndAnew();
        noNamesakes();
        tenNamesakes();
        noNames();
        knownByFill();
        knownByNamesake();
        knownAgain();
        emptyHistory();
        fullHistory();
        historyAfterUndo();
        emptySlots();
        slotsApart();
        slotOverwritten();
        due.end();
    }

    private static void emptyList(int coast, int list) {
        due.promise(0, "lists of up to 8 names, empty: " + coast + ", " + list);
        GaleNames x = new GaleNames();
        x.set(GaleNames.HARM, 40);
        for (int year = 0; year < list; year++) x.endYear();
        int changes = x.count(13);
        Due.pad(x, "what?");
        due.is("listed", x.listed(coast, list, 0), NO_SUCH);
        due.is("strike", x.strike(coast, list, 0), NO_SUCH);
        due.is("next", x.next(coast), NONE);
        due.is("left", x.left(coast, 0), 0);
        due.is("storm", x.storm(coast), NOT_POSSIBLE);
        due.is("changes", x.count(13), changes);
        due.is("write", x.write(coast, list), 0);
        due.padIs(x, "");
        due.is("fill of what was written", x.fill(coast, list), BAD_TEXT);
        due.is("fill of one", Due.fill(x, coast, list, "zoe"), 1);
        due.is("strike of the only one", x.strike(coast, list, 0), 0);
        due.is("strike of no more", x.strike(coast, list, 0), NO_SUCH);
        due.is("write of no more", x.write(coast, list), 0);
    }

    private static void fullList(int coast, int list) {
        due.promise(0, "lists of up to 8 names, full: " + coast + ", " + list);
        GaleNames x = new GaleNames();
        for (int year = 0; year < list; year++) x.endYear();
        due.is("nine at once", Due.fill(x, coast, list, Offices.names(0, 9, 'a')), TOO_MANY);
        due.is("none of them is known", x.count(1), 0);
        due.is("eight at once", Due.fill(x, coast, list, Offices.eight('a')), 8);
        due.listIs(x, coast, list, 0, 1, 2, 3, 4, 5, 6, 7);
        due.is("a ninth", Due.fill(x, coast, list, "ia"), TOO_MANY);
        due.is("eight more", Due.fill(x, coast, list, Offices.eight('b')), TOO_MANY);
        due.is("write", x.write(coast, list), 23);
        due.is("left", x.left(coast, 0), 8);
        for (int i = 0; i < 8; i++) due.is("storm", x.storm(coast), i);
        due.is("a ninth storm", x.storm(coast), NOT_POSSIBLE);
        due.is("strike of the last", x.strike(coast, list, 7), 7);
        due.is("strike behind it", x.strike(coast, list, 7), NO_SUCH);
        due.is("two where one is missing", Due.fill(x, coast, list, "ia,ja"), TOO_MANY);
        due.is("neither is known", x.count(1), 8);
        due.is("one where one is missing", Due.fill(x, coast, list, "ia"), 8);
        due.listIs(x, coast, list, 0, 1, 2, 3, 4, 5, 6, 8);
    }

    private static void listFilledUp(int coast, int list) {
        due.promise(0, "lists of up to 8 names, one by one: " + coast + ", " + list);
        GaleNames x = new GaleNames();
        for (int i = 0; i < 8; i++) due.is("name " + i, Due.fill(x, coast, list, Offices.names(i, 1, 'a')), i + 1);
        due.is("name 8", Due.fill(x, coast, list, "ia"), TOO_MANY);
        due.padIs(x, "ia");
        for (int i = 0; i < 8; i++) due.is("strike of the first", x.strike(coast, list, 0), i);
        due.listIs(x, coast, list);
        due.is("eight anew, known ones", Due.fill(x, coast, list, Offices.eight('a')), 8);
        due.is("names known", x.count(1), 8);
    }

    /** Eight names of six letters, the longest text that write makes. */
    private static void longestList() {
        due.promise(10, "write of the longest list");
        GaleNames x = new GaleNames();
        String names = "aaaaaa,bbbbbb,cccccc,dddddd,eeeeee,ffffff,gggggg,zzzzzz";
        due.is("fill", Due.fill(x, 1, 2, names), 8);
        Due.pad(x, Offices.letters(80));
        due.is("write over a full pad", x.write(1, 2), 55);
        due.padIs(x, names);
        due.is("fill of the other coast with it", x.fill(0, 2), 8);
    }

    private static void emptyPad() {
        due.promise(0, "the pad, empty");
        GaleNames x = new GaleNames();
        for (int time = 0; time < 2; time++) {
            due.is("sign(0)", x.sign(0), NO_SUCH);
            due.is("count(12)", x.count(12), 0);
            due.is("fault()", x.fault(), 0);
            due.is("fill", x.fill(0, 0), BAD_TEXT);
            due.is("namesake", x.namesake(), BAD_TEXT);
            due.is("find", x.find(), BAD_TEXT);
            due.is("beginning", x.beginning(), BAD_TEXT);
            due.is("wipe()", x.wipe(), 0);
            Due.append(x, "zoe");
            due.is("wipe() of zoe", x.wipe(), 3);
        }
    }

    /** 80 characters that tell 27 names, no one twice. */
    private static void fullPad() {
        due.promise(0, "the pad, full");
        GaleNames x = new GaleNames();
        String text = Offices.names(0, 26, 'a') + ",zz";
        due.is("so many characters", text.length(), 80);
        Due.append(x, text);
        due.is("count(12)", x.count(12), 80);
        due.is("fault()", x.fault(), NONE);
        due.is("sign(0)", x.sign(0), 'a');
        due.is("sign(79)", x.sign(79), 'z');
        due.is("sign(80)", x.sign(80), NO_SUCH);
        for (int many = 1; many <= 8; many++) {
            due.is("put of " + many, x.put(Due.packed("abcdefgh".substring(0, many))), TOO_MANY);
        }
        due.padIs(x, text);
        due.is("find()", x.find(), BAD_TEXT);
        due.is("fill()", x.fill(0, 0), TOO_MANY);
        due.is("wipe()", x.wipe(), 80);
        due.is("put when it is empty", x.put('a'), 1);
    }

    private static void padFilledUp() {
        due.promise(25, "put up to 80 characters");
        for (int many = 1; many <= 8; many++) {
            String more = "hgfedcba".substring(0, many);
            GaleNames x = new GaleNames();
            Due.append(x, Offices.letters(80 - many));
            due.is("put of " + many + " up to 80", x.put(Due.packed(more)), 80);
            due.padIs(x, Offices.letters(80 - many) + more);
            GaleNames y = new GaleNames();
            Due.append(y, Offices.letters(81 - many));
            due.is("put of " + many + " up to 81", y.put(Due.packed(more)), TOO_MANY);
            due.padIs(y, Offices.letters(81 - many));
        }
    }

    private static void noStorms() {
        due.promise(0, "storms of a year, none");
        GaleNames x = new GaleNames();
        Due.fill(x, 0, 0, "anna");
        due.is("count(3)", x.count(3), 0);
        due.is("count(4)", x.count(4), 0);
        due.is("count(5)", x.count(5), 0);
        due.is("harm", x.harm(0, 1), NO_SUCH);
        due.is("ofStorm", x.ofStorm(0, 0), NO_SUCH);
        due.is("ifRetired(1)", x.ifRetired(1), 0);
        due.is("endYear", x.endYear(), 0);
        due.is("the year", x.count(0), 1);
    }

    private static GaleNames withStorms(int storms) {
        GaleNames x = new GaleNames();
        Due.fill(x, 0, 0, Offices.eight('a'));
        Due.fill(x, 1, 0, Offices.eight('b'));
        for (int i = 0; i < storms; i++) due.is("storm " + i, x.storm(i / 8), i);
        return x;
    }

    /** A 17th storm needs a name that is left, and then comes too late on each coast. */
    private static void sixteenStorms() {
        for (int coast = 0; coast < 2; coast++) {
            due.promise(5, "storms of a year, 16, and one more on coast " + coast);
            GaleNames x = withStorms(16);
            due.is("no name is left", x.storm(coast), NOT_POSSIBLE);
            x.strike(coast, 0, 0);
            Due.fill(x, coast, 0, "zoe");
            due.is("a name is left", x.storm(coast), TOO_MANY);
            due.is("next", x.next(coast), 16);
            due.is("left", x.left(coast, 0), 1);
            due.is("count(3)", x.count(3), 16);
            due.is("harm of the last", x.harm(15, 50), 50);
            due.is("harm behind the last", x.harm(16, 50), NO_SUCH);
            due.is("ofStorm behind the last", x.ofStorm(16, 0), NO_SUCH);
        }
        due.promise(5, "storms of a year, 15, and one more");
        GaleNames x = withStorms(15);
        due.is("the 16th", x.storm(1), 15);
    }

    private static void stormsUndoneAndAnew() {
        due.promise(5, "storms of a year, 16 undone and anew");
        GaleNames x = withStorms(16);
        x.undo();
        due.is("count(3) when one is undone", x.count(3), 15);
        due.is("the 16th again", x.storm(1), 15);
        x.endYear();
        due.is("count(3) of a new year", x.count(3), 0);
        due.is("count(4) of a new year", x.count(4), 16);
        Due.fill(x, 1, 1, "zoe");
        due.is("the first storm of a new year", x.storm(1), 0);
    }

    private static void noNamesakes() {
        due.promise(0, "namesakes, none");
        GaleNames x = new GaleNames();
        Due.fill(x, 0, 0, "anna");
        due.is("count(6)", x.count(6), 0);
        due.is("count(7)", x.count(7), 0);
        due.is("count(8)", x.count(8), 0);
        due.is("of(0, 5)", x.of(0, 5), 0);
        due.is("ofNamesake", x.ofNamesake(0, 0), NO_SUCH);
        due.is("apologise", x.apologise(0), NO_SUCH);
        x.storm(0);
        x.harm(0, 50);
        x.endYear();
        due.is("count(7) after a year of harm", x.count(7), 0);
        due.is("the first one comes after it", Due.namesake(x, "anna"), 0);
        due.is("and is owed nothing", x.ofNamesake(0, 1), 0);
    }

    private static void tenNamesakes() {
        due.promise(8, "namesakes, ten");
        GaleNames x = new GaleNames();
        for (int i = 0; i < 10; i++) due.is("namesake " + i, Due.namesake(x, i % 2 == 0 ? "anna" : "bob"), i);
        due.is("an 11th of a known name", Due.namesake(x, "anna"), TOO_MANY);
        due.is("an 11th of a new name", Due.namesake(x, "cyril"), TOO_MANY);
        due.padIs(x, "cyril");
        due.is("which is not known", x.find(), NONE);
        due.is("count(6)", x.count(6), 10);
        due.is("of(0, 5)", x.of(0, 5), 5);
        due.is("of(1, 5)", x.of(1, 5), 5);
        due.is("ofNamesake(9, 0)", x.ofNamesake(9, 0), 1);
        due.is("ofNamesake(10, 0)", x.ofNamesake(10, 0), NO_SUCH);
        x.undo();
        due.is("a tenth when one is undone", Due.namesake(x, "cyril"), 9);
        x.endYear();
        due.is("an 11th in a new year", Due.namesake(x, "anna"), TOO_MANY);
    }

    private static void noNames() {
        due.promise(0, "known names, none");
        GaleNames x = new GaleNames();
        due.is("count(1)", x.count(1), 0);
        due.is("of", x.of(0, 0), NO_SUCH);
        due.is("letter", x.letter(0, 0), NO_SUCH);
        due.is("ranked", x.ranked(0), NO_SUCH);
        due.is("same", x.same(0, 0), NO_SUCH);
        Due.pad(x, "anna");
        due.is("find", x.find(), NONE);
        due.is("beginning", x.beginning(), 0);
        due.is("save", x.save(0), 0);
    }

    /** An office that knows so many names, up to 40, none of which stands on coast 0; its lists are empty there. */
    private static GaleNames knowing(int names) {
        GaleNames x = new GaleNames();
        for (int known = 0; known < names; known += 8) {
            int many = Math.min(names - known, 8);
            Due.fill(x, 1, 0, Offices.names(0, many, (char) ('a' + known / 8)));
            for (int i = 0; i < many; i++) x.strike(1, 0, 0);
        }
        due.is("names known", x.count(1), names);
        return x;
    }

    private static void knownByFill() {
        due.promise(3, "up to 40 known names");
        for (int names = 32; names <= 40; names++) {
            GaleNames x = knowing(names);
            if (names < 40) {
                String more = Offices.names(0, 40 - names, 'z');
                due.is("fill up to 40 of " + names, Due.fill(x, 0, 0, more), 40 - names);
                x.undo();
            }
            if (names > 32) {
                due.is("fill up to 41 of " + names, Due.fill(x, 0, 0, Offices.names(0, 41 - names, 'z')), TOO_MANY);
            }
            due.is("names known yet", x.count(1), names);
        }
        GaleNames x = knowing(40);
        due.is("a 41st", Due.fill(x, 0, 0, "zz"), TOO_MANY);
        due.is("a known one and a 41st", Due.fill(x, 0, 0, "aa,zz"), TOO_MANY);
        due.listIs(x, 0, 0);
        due.is("eight known ones", Due.fill(x, 0, 0, Offices.eight('e')), 8);
        due.listIs(x, 0, 0, 32, 33, 34, 35, 36, 37, 38, 39);
    }

    private static void knownByNamesake() {
        due.promise(8, "up to 40 known names");
        GaleNames x = knowing(39);
        due.is("a 40th", Due.namesake(x, "zz"), 0);
        due.is("its number", x.ofNamesake(0, 0), 39);
        due.is("a 41st", Due.namesake(x, "zy"), TOO_MANY);
        due.is("a 41st by fill", x.fill(0, 0), TOO_MANY);
        due.is("a known one", Due.namesake(x, "aa"), 1);
        due.is("the 40th again", Due.namesake(x, "zz"), 2);
        due.is("the 40th by fill", Due.fill(x, 0, 0, "zz"), 1);
        due.is("names known", x.count(1), 40);
    }

    private static void knownAgain() {
        due.promise(0, "known names, a retired one counts, and one undone does not");
        GaleNames x = new GaleNames();
        Due.fill(x, 0, 0, "zz");
        x.storm(0);
        x.harm(0, 30);
        x.endYear();
        for (int list = 1; list < 6; list++) {
            int many = list < 5 ? 8 : 7;
            due.is("fill", Due.fill(x, list / 3, list % 3, Offices.names(0, many, (char) ('a' + list))), many);
        }
        due.is("count(1)", x.count(1), 40);
        due.is("a 41st, one being retired", Due.namesake(x, "zy"), TOO_MANY);
        x.undo();
        due.is("count(1) when seven are undone", x.count(1), 33);
        due.is("a 34th", Due.namesake(x, "zy"), 0);
        due.is("its number", x.ofNamesake(0, 0), 33);
    }

    private static void emptyHistory() {
        due.promise(28, "the history, empty");
        GaleNames x = new GaleNames();
        due.is("undo() at first", x.undo(), NOT_POSSIBLE);
        due.is("count(13)", x.count(13), 0);
        Due.fill(x, 0, 0, "anna");
        due.is("undo() of one", x.undo(), 0);
        due.is("undo() of no more", x.undo(), NOT_POSSIBLE);
        due.is("count(13)", x.count(13), 0);
        due.is("count(1)", x.count(1), 0);
        x.save(0);
        due.is("undo() after save", x.undo(), NOT_POSSIBLE);
        x.restore(0);
        due.is("undo() of restore", x.undo(), 0);
    }

    /** The n-th change sets HARM to n, so that HARM tells which states are kept: 0 to 20 changes. */
    private static void fullHistory() {
        due.promise(28, "a history of at most 6 states");
        for (int changes = 0; changes <= 20; changes++) {
            GaleNames x = new GaleNames();
            for (int i = 1; i <= changes; i++) x.set(GaleNames.HARM, i);
            int kept = Math.min(changes, 6);
            due.is("count(13) after " + changes, x.count(13), kept);
            for (int i = 1; i <= kept; i++) {
                due.is("undo() " + i + " after " + changes, x.undo(), kept - i);
                int harm = changes - i;
                due.is("HARM then", x.count(9), harm == 0 ? 30 : harm);
            }
            due.is("undo() of no more after " + changes, x.undo(), NOT_POSSIBLE);
        }
    }

    /** Undo makes room in a full history; so many undone, so many changes until the oldest one is dropped again. */
    private static void historyAfterUndo() {
        due.promise(28, "a full history after undo");
        for (int undone = 1; undone <= 6; undone++) {
            GaleNames x = new GaleNames();
            for (int i = 1; i <= 9; i++) x.set(GaleNames.SORRY, i);
            for (int i = 0; i < undone; i++) x.undo();
            for (int i = 1; i <= undone; i++) {
                x.set(GaleNames.SORRY, 50 + i);
                due.is("count(13)", x.count(13), 6 - undone + i);
            }
            for (int i = 0; i < 6; i++) x.undo();
            due.is("the oldest one is kept", x.count(10), 3);
            due.is("undo() of no more", x.undo(), NOT_POSSIBLE);
        }
    }

    private static void emptySlots() {
        due.promise(30, "slots, empty");
        for (int slot = 0; slot < 2; slot++) {
            GaleNames x = new GaleNames();
            Due.fill(x, 0, 0, "anna");
            due.is("restore", x.restore(slot), NOT_POSSIBLE);
            due.is("save in the other one", x.save(1 - slot), 1);
            due.is("restore of this one yet", x.restore(slot), NOT_POSSIBLE);
            due.is("restore of the other one", x.restore(1 - slot), 1);
            due.is("restore of this one yet", x.restore(slot), NOT_POSSIBLE);
            x.undo();
            due.is("save here", x.save(slot), 1);
            due.is("restore of this one", x.restore(slot), 1);
        }
        GaleNames x = new GaleNames();
        due.is("save of an empty office", x.save(0), 0);
        Due.fill(x, 0, 0, "anna");
        due.is("restore of an empty office", x.restore(0), 0);
        due.listIs(x, 0, 0);
    }

    private static void slotsApart() {
        due.promise(29, "slots, both full");
        GaleNames x = new GaleNames();
        Due.fill(x, 0, 0, "anna");
        x.save(0);
        Due.fill(x, 0, 0, "bob");
        x.save(1);
        Due.fill(x, 0, 0, "cyril");
        for (int time = 0; time < 3; time++) {
            due.is("restore(0)", x.restore(0), 1);
            due.listIs(x, 0, 0, 0);
            due.is("restore(1)", x.restore(1), 2);
            due.listIs(x, 0, 0, 0, 1);
        }
    }

    private static void slotOverwritten() {
        due.promise(29, "a full slot, overwritten");
        GaleNames x = new GaleNames();
        Due.fill(x, 0, 0, "anna,bob");
        x.storm(0);
        x.save(0);
        x.harm(0, 30);
        x.endYear();
        due.is("save", x.save(0), 2);
        x.undo();
        x.undo();
        due.is("restore", x.restore(0), 2);
        due.is("the year", x.count(0), 1);
        due.is("retired", x.of(0, 1), 1);
        due.listIs(x, 0, 0, 1);
    }
}
