/** Promises 19 to 24: what if, and what is found. */
public final class QuestionsTest {
    private static final int NO_SUCH = GaleNames.NO_SUCH, BAD_VALUE = GaleNames.BAD_VALUE;
    private static final int BAD_TEXT = GaleNames.BAD_TEXT, NONE = GaleNames.NONE;
    private static final Due due = new Due();

    public static void main(String[] args) {
        find();
        beginning();
        next();
        left();
        ifRetired();
        same();
        nothingChanges();
        due.end();
    }

    private static void find() {
        due.promise(19, "find");
        GaleNames x = new GaleNames();
        Due.fill(x, 0, 0, "anna,bob");
        due.is("find() of anna", Due.find(x, "anna"), 0);
        due.padIs(x, "anna");
        due.is("find() of bob", Due.find(x, "bob"), 1);
        due.is("find() of ann", Due.find(x, "ann"), NONE);
        due.is("find() of annab", Due.find(x, "annab"), NONE);
        due.is("find() of two", Due.find(x, "anna,bob"), BAD_TEXT);
        due.is("find() of one twice", Due.find(x, "anna,anna"), BAD_TEXT);
        due.is("find() of a bad text", Due.find(x, "anna,"), BAD_TEXT);
        due.is("find() of a seventh letter", Due.find(x, "abcdefg"), BAD_TEXT);
        due.is("find() of no text", Due.find(x, ""), BAD_TEXT);
        x.strike(0, 0, 0);
        due.is("find() of a struck name", Due.find(x, "anna"), 0);
        x.storm(0);
        x.harm(0, 30);
        x.endYear();
        due.is("find() of a retired name", Due.find(x, "bob"), 1);
    }

    private static void beginning() {
        due.promise(20, "beginning");
        GaleNames x = new GaleNames();
        Due.fill(x, 0, 0, "anna,bob");
        Due.fill(x, 0, 1, "ann,an");
        Due.fill(x, 0, 2, "annika");
        String[] texts = {"an", "ann", "anna", "annab", "anni", "annika", "bo", "ca", "nn", "annb"};
        int[] names = {4, 3, 1, 0, 1, 1, 1, 0, 0, 0};
        for (int i = 0; i < texts.length; i++) {
            Due.pad(x, texts[i]);
            due.is("beginning() of " + texts[i], x.beginning(), names[i]);
        }
        due.padIs(x, "annb");
        String[] bad = {"", "a", "an,bo", "an,an", "an,", "An", "annikaa"};
        for (String text : bad) {
            Due.pad(x, text);
            due.is("beginning() of " + text, x.beginning(), BAD_TEXT);
        }
        x.storm(0);
        x.harm(0, 30);
        x.endYear();
        Due.pad(x, "an");
        due.is("beginning() with a retired name", x.beginning(), 4);
    }

    private static void next() {
        due.promise(21, "next");
        GaleNames x = new GaleNames();
        due.is("next(0) of no names", x.next(0), NONE);
        Due.fill(x, 0, 0, "anna,bob");
        Due.fill(x, 1, 0, "bob");
        Due.fill(x, 0, 2, "cyril");
        due.is("next(0)", x.next(0), 0);
        due.is("next(1)", x.next(1), 1);
        x.storm(1);
        due.is("next(1) then", x.next(1), NONE);
        due.is("next(0) yet", x.next(0), 0);
        x.storm(0);
        due.is("next(0): given on the other coast alone", x.next(0), 1);
        x.strike(0, 0, 0);
        due.is("next(0) after strike", x.next(0), 1);
        due.is("next(2)", x.next(2), NO_SUCH);
        due.is("next(-1)", x.next(-1), NO_SUCH);
        due.is("next(lowest)", x.next(Integer.MIN_VALUE), NO_SUCH);
        x.endYear();
        due.is("next(0) of the year 1", x.next(0), NONE);
        x.endYear();
        due.is("next(0) of the year 2", x.next(0), 2);
    }

    private static void left() {
        due.promise(22, "left");
        GaleNames x = new GaleNames();
        Due.fill(x, 0, 0, "anna,bob,cyril");
        Due.fill(x, 0, 1, "dora,ed");
        Due.fill(x, 1, 0, "cyril");
        Due.fill(x, 1, 2, "anna,dora,ed,zoe");
        int[][] left = {{3, 2, 0}, {1, 0, 4}};
        for (int coast = 0; coast < 2; coast++) {
            for (int ahead = 0; ahead < 3; ahead++) {
                due.is("left(" + coast + ", " + ahead + ")", x.left(coast, ahead), left[coast][ahead]);
            }
        }
        x.storm(0);
        x.storm(0);
        due.is("left(0, 0) then", x.left(0, 0), 1);
        due.is("left(1, 0) yet", x.left(1, 0), 1);
        x.strike(0, 0, 0);
        due.is("left(0, 0) without a given name", x.left(0, 0), 1);
        due.is("left(0, 3)", x.left(0, 3), BAD_VALUE);
        due.is("left(0, -1)", x.left(0, -1), BAD_VALUE);
        due.is("left(0, highest)", x.left(0, Integer.MAX_VALUE), BAD_VALUE);
        due.is("left(2, 0)", x.left(2, 0), NO_SUCH);
        due.is("left(-1, 3)", x.left(-1, 3), NO_SUCH);
        x.harm(1, 50);
        due.is("left(0, 0): nothing is retired", x.left(0, 0), 1);
        x.endYear();
        due.is("left(0, 0) of the year 1", x.left(0, 0), 2);
        due.is("left(0, 2) of the year 1", x.left(0, 2), 1);
        due.is("left(1, 1) of the year 1", x.left(1, 1), 4);
        x.storm(0);
        due.is("left(0, 0) with a storm", x.left(0, 0), 1);
        x.endYear();
        x.endYear();
        due.is("left(0, 0) of the year 3", x.left(0, 0), 1);
        due.is("left(0, 1) of the year 3", x.left(0, 1), 2);
        x.storm(0);
        x.endYear();
        due.is("left(0, 2) of the year 4: with all names", x.left(0, 2), 1);
        aheadWithAllNames();
    }

    /** A name of the next year's list may have been given in this one, when it was struck and filled anew. */
    private static void aheadWithAllNames() {
        GaleNames x = new GaleNames();
        Due.fill(x, 0, 0, "anna,bob");
        x.storm(0);
        x.strike(0, 0, 0);
        Due.fill(x, 0, 1, "anna");
        due.is("left(0, 1) with a name given this year", x.left(0, 1), 1);
        due.is("left(0, 0) with a name given this year", x.left(0, 0), 1);
    }

    private static void ifRetired() {
        due.promise(23, "ifRetired");
        GaleNames x = new GaleNames();
        due.is("ifRetired(1) of nothing", x.ifRetired(1), 0);
        Due.fill(x, 0, 0, "anna,bob,cyril,dora");
        Due.fill(x, 1, 0, "bob");
        for (int i = 0; i < 4; i++) x.storm(0);
        x.storm(1);
        due.is("ifRetired(1) with no harm", x.ifRetired(1), 0);
        x.harm(0, 1);
        x.harm(1, 20);
        x.harm(4, 20);
        x.harm(2, 50);
        x.harm(2, 49);
        int[] harms = {1, 2, 20, 40, 41, 98, 99};
        int[] names = {3, 2, 2, 2, 1, 1, 1};
        for (int i = 0; i < harms.length; i++) due.is("ifRetired(" + harms[i] + ")", x.ifRetired(harms[i]), names[i]);
        due.is("ifRetired(0)", x.ifRetired(0), BAD_VALUE);
        due.is("ifRetired(100)", x.ifRetired(100), BAD_VALUE);
        due.is("ifRetired(-1)", x.ifRetired(-1), BAD_VALUE);
        due.is("retired yet", x.count(2), 0);
        x.endYear();
        due.is("ifRetired(1) of a new year", x.ifRetired(1), 0);
    }

    private static void same() {
        due.promise(24, "same");
        GaleNames x = new GaleNames();
        Due.fill(x, 0, 0, "anna,an");
        Due.fill(x, 0, 1, "annika");
        Due.fill(x, 0, 2, "bnna");
        int[][] same = {{4, 2, 3, 0}, {2, 2, 2, 0}, {3, 2, 6, 0}, {0, 0, 0, 4}};
        for (int name = 0; name < 4; name++) {
            for (int other = 0; other < 4; other++) {
                due.is("same(" + name + ", " + other + ")", x.same(name, other), same[name][other]);
            }
        }
        due.is("same(0, 4)", x.same(0, 4), NO_SUCH);
        due.is("same(4, 0)", x.same(4, 0), NO_SUCH);
        due.is("same(-1, 0)", x.same(-1, 0), NO_SUCH);
        due.is("same(0, -1)", x.same(0, -1), NO_SUCH);
        due.is("same(highest, lowest)", x.same(Integer.MAX_VALUE, Integer.MIN_VALUE), NO_SUCH);
    }

    private static void nothingChanges() {
        due.promise(0, "questions change nothing");
        GaleNames x = new GaleNames();
        Due.fill(x, 0, 0, "anna");
        Due.pad(x, "bob");
        x.find();
        x.beginning();
        x.next(0);
        x.left(0, 0);
        x.ifRetired(1);
        x.same(0, 0);
        x.fault();
        due.is("changes", x.count(13), 1);
        due.is("known", x.count(1), 1);
        due.is("storms", x.count(3), 0);
        due.padIs(x, "bob");
    }
}
