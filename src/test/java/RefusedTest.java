import java.util.function.Supplier;
import java.util.function.ToIntFunction;

/**
 * "A call that returns an error changes nothing": each cause of each error of each call, and all that can be seen
 * after it: at once, after each undo, and after what is saved in each slot is restored. And the calls that are no
 * changes, which change nothing when they succeed, either.
 */
public final class RefusedTest {
    private static final int NO_SUCH = GaleNames.NO_SUCH, BAD_VALUE = GaleNames.BAD_VALUE;
    private static final int BAD_TEXT = GaleNames.BAD_TEXT, TOO_MANY = GaleNames.TOO_MANY;
    private static final int NOT_POSSIBLE = GaleNames.NOT_POSSIBLE, NONE = GaleNames.NONE;
    private static final int UNDOS = 6, SLOTS = 2;
    private static final Due due = new Due();

    public static void main(String[] args) {
        due.promise(0, "an error changes nothing");
        settings();
        fillNotThere();
        fillNotPossible();
        fillTooMany();
        strike();
        storms();
        namesakes();
        views();
        questions();
        texts();
        undoAndSlots();
        lastYear();
        due.promise(0, "what is no change changes nothing");
        answersOfViews();
        answersOfQuestions();
        due.end();
    }

    private static void settings() {
        changesNothing("set of no setting", "", x -> x.set(3, 5), BAD_VALUE);
        changesNothing("set of a setting below the first", "", x -> x.set(-1, 5), BAD_VALUE);
        changesNothing("set of HARM, too small", "", x -> x.set(GaleNames.HARM, 0), BAD_VALUE);
        changesNothing("set of HARM, too large", "", x -> x.set(GaleNames.HARM, 100), BAD_VALUE);
        changesNothing("set of SORRY, too small", "", x -> x.set(GaleNames.SORRY, 0), BAD_VALUE);
        changesNothing("set of SORRY, too large", "", x -> x.set(GaleNames.SORRY, 100), BAD_VALUE);
        changesNothing("set of LIKE, too small", "", x -> x.set(GaleNames.LIKE, 0), BAD_VALUE);
        changesNothing("set of LIKE, too large", "", x -> x.set(GaleNames.LIKE, 7), BAD_VALUE);
    }

    private static void fillNotThere() {
        changesNothing("fill of no coast", "hugo", x -> x.fill(2, 0), NO_SUCH);
        changesNothing("fill of a coast below the first", "hugo", x -> x.fill(-1, 0), NO_SUCH);
        changesNothing("fill of no list", "hugo", x -> x.fill(0, 3), NO_SUCH);
        changesNothing("fill of a list below the first", "hugo", x -> x.fill(1, -1), NO_SUCH);
        changesNothing("fill with no text", "", x -> x.fill(0, 0), BAD_TEXT);
        changesNothing("fill with a text that ends too early", "hugo,ida,", x -> x.fill(0, 0), BAD_TEXT);
        changesNothing("fill with a seventh letter", "hugo,abcdefg", x -> x.fill(0, 0), BAD_TEXT);
    }

    private static void fillNotPossible() {
        changesNothing("fill with a retired name", "hugo,anna", x -> x.fill(1, 2), NOT_POSSIBLE);
        changesNothing("fill with a name of the list", "hugo,bob", x -> x.fill(0, 0), NOT_POSSIBLE);
        changesNothing("fill with a name of the coast", "hugo,eve", x -> x.fill(0, 2), NOT_POSSIBLE);
        changesNothing("fill with a name told twice", "hugo,ida,hugo", x -> x.fill(0, 2), NOT_POSSIBLE);
        changesNothing("fill with a name alike to one of the list", "hugo,cyrus", x -> x.fill(0, 0), NOT_POSSIBLE);
        changesNothing("fill with names that are alike", "hugo,hugi", x -> x.fill(0, 2), NOT_POSSIBLE);
    }

    private static void fillTooMany() {
        changesNothing("fill of a list of two with seven", "hu,ia,jo,ka,li,mo,ni", x -> x.fill(0, 0), TOO_MANY);
        changesNothing("fill of an empty list with nine", "hu,ia,jo,ka,li,mo,ni,om,pa", x -> x.fill(0, 2), TOO_MANY);
        changesNothingWhenFull("fill of a full list", "ae", x -> x.fill(0, 0), TOO_MANY);
        changesNothing("fill with a 41st name", "ad,zz", RefusedTest::allKnown, x -> x.fill(0, 2), TOO_MANY);
    }

    /** 40 names are known, and one list has room for two. */
    private static GaleNames allKnown() {
        GaleNames x = new GaleNames();
        Offices.fillAll(x);
        x.strike(0, 2, 0);
        x.strike(0, 2, 0);
        return x;
    }

    private static void strike() {
        changesNothing("strike of no coast", "", x -> x.strike(2, 0, 0), NO_SUCH);
        changesNothing("strike of a coast below the first", "", x -> x.strike(-1, 0, 0), NO_SUCH);
        changesNothing("strike of no list", "", x -> x.strike(0, 3, 0), NO_SUCH);
        changesNothing("strike of a list below the first", "", x -> x.strike(1, -1, 0), NO_SUCH);
        changesNothing("strike behind the last place", "", x -> x.strike(0, 0, 2), NO_SUCH);
        changesNothing("strike ahead of the first place", "", x -> x.strike(0, 0, -1), NO_SUCH);
        changesNothing("strike of an empty list", "", x -> x.strike(0, 2, 0), NO_SUCH);
        changesNothingWhenFull("strike behind a full list", "", x -> x.strike(0, 0, 8), NO_SUCH);
    }

    private static void storms() {
        changesNothing("storm of no coast", "", x -> x.storm(2), NO_SUCH);
        changesNothing("storm of a coast below the first", "", x -> x.storm(-1), NO_SUCH);
        changesNothing("storm of an empty list", "", GaleNames::new, x -> x.storm(0), NOT_POSSIBLE);
        changesNothingWhenFull("storm when all names are given", "", x -> x.storm(1), NOT_POSSIBLE);
        changesNothingWhenFull("a 17th storm", "", x -> x.storm(0), TOO_MANY);
        changesNothing("harm of no storm", "", x -> x.harm(1, 5), NO_SUCH);
        changesNothing("harm of a storm below the first", "", x -> x.harm(-1, 5), NO_SUCH);
        changesNothingWhenFull("harm of a 17th storm", "", x -> x.harm(16, 5), NO_SUCH);
        changesNothing("harm, too little", "", x -> x.harm(0, 0), BAD_VALUE);
        changesNothing("harm, too much", "", x -> x.harm(0, 51), BAD_VALUE);
    }

    private static void namesakes() {
        changesNothing("namesake with no text", "", x -> x.namesake(), BAD_TEXT);
        changesNothing("namesake with a fault", "hugo,", x -> x.namesake(), BAD_TEXT);
        changesNothing("namesake with two names", "hugo,ida", x -> x.namesake(), BAD_TEXT);
        changesNothingWhenFull("an 11th namesake", "aa", x -> x.namesake(), TOO_MANY);
        changesNothing("namesake with a 41st name", "zz", RefusedTest::allKnown, x -> x.namesake(), TOO_MANY);
        changesNothing("apologise to no namesake", "", x -> x.apologise(1), NO_SUCH);
        changesNothing("apologise to a namesake below the first", "", x -> x.apologise(-1), NO_SUCH);
        changesNothingWhenFull("apologise when none is owed", "", x -> x.apologise(0), NOT_POSSIBLE);
        changesNothingWhenFull("apologise to an 11th namesake", "", x -> x.apologise(10), NO_SUCH);
    }

    private static void views() {
        changesNothing("write of no coast", "hugo", x -> x.write(2, 0), NO_SUCH);
        changesNothing("write of a coast below the first", "hugo", x -> x.write(-1, 0), NO_SUCH);
        changesNothing("write of no list", "hugo", x -> x.write(0, 3), NO_SUCH);
        changesNothing("write of a list below the first", "hugo", x -> x.write(1, -1), NO_SUCH);
        changesNothing("of no name", "", x -> x.of(6, 0), NO_SUCH);
        changesNothing("of, no such thing", "", x -> x.of(0, 7), BAD_VALUE);
        changesNothing("letter of no name", "", x -> x.letter(6, 0), NO_SUCH);
        changesNothing("letter that is not there", "", x -> x.letter(0, 4), NO_SUCH);
        changesNothing("listed of no coast", "", x -> x.listed(2, 0, 0), NO_SUCH);
        changesNothing("listed of no list", "", x -> x.listed(0, 3, 0), NO_SUCH);
        changesNothing("listed behind the last place", "", x -> x.listed(0, 0, 2), NO_SUCH);
        changesNothing("ofStorm of no storm", "", x -> x.ofStorm(1, 0), NO_SUCH);
        changesNothing("ofStorm, no such thing", "", x -> x.ofStorm(0, 4), BAD_VALUE);
        changesNothing("ofNamesake of no namesake", "", x -> x.ofNamesake(1, 0), NO_SUCH);
        changesNothing("ofNamesake, no such thing", "", x -> x.ofNamesake(0, 3), BAD_VALUE);
        changesNothing("ranked behind the last one", "", x -> x.ranked(6), NO_SUCH);
        changesNothing("sign behind the last one", "hugo", x -> x.sign(4), NO_SUCH);
        changesNothing("count of no such thing", "hugo", x -> x.count(14), BAD_VALUE);
    }

    private static void questions() {
        changesNothing("find with a fault", "Hugo", x -> x.find(), BAD_TEXT);
        changesNothing("find with two names", "hugo,ida", x -> x.find(), BAD_TEXT);
        changesNothing("beginning with a fault", "h", x -> x.beginning(), BAD_TEXT);
        changesNothing("beginning with two names", "hugo,ida", x -> x.beginning(), BAD_TEXT);
        changesNothing("next of no coast", "", x -> x.next(2), NO_SUCH);
        changesNothing("left of no coast", "", x -> x.left(2, 0), NO_SUCH);
        changesNothing("left, too far ahead", "", x -> x.left(0, 3), BAD_VALUE);
        changesNothing("ifRetired, too small", "", x -> x.ifRetired(0), BAD_VALUE);
        changesNothing("ifRetired, too large", "", x -> x.ifRetired(100), BAD_VALUE);
        changesNothing("same of no name", "", x -> x.same(6, 0), NO_SUCH);
        changesNothing("same with no name", "", x -> x.same(0, 6), NO_SUCH);
    }

    private static void texts() {
        changesNothing("put of no character", "hugo", x -> x.put(0), BAD_VALUE);
        changesNothing("put of a bad code behind good ones", "hugo", x -> x.put(Due.packed("abc ")), BAD_VALUE);
        changesNothing("put of a bad code ahead of good ones", "hugo", x -> x.put(Due.packed(" abc")), BAD_VALUE);
        changesNothing("put with a bit above 8 that are 0", "hugo", x -> x.put(1L << 40 | 'a'), BAD_VALUE);
        changesNothing("put of one character behind 80", Offices.letters(80), x -> x.put('a'), TOO_MANY);
        changesNothing("put of eight behind 73", Offices.letters(73), x -> x.put(Due.packed("abcdefgh")), TOO_MANY);
    }

    private static void undoAndSlots() {
        changesNothing("undo of nothing", "hugo", GaleNames::new, x -> x.undo(), NOT_POSSIBLE);
        changesNothing("undo when all is undone", "hugo", RefusedTest::allUndone, x -> x.undo(), NOT_POSSIBLE);
        changesNothing("save in no slot", "hugo", x -> x.save(2), BAD_VALUE);
        changesNothing("save in a slot below the first", "hugo", x -> x.save(-1), BAD_VALUE);
        changesNothing("restore of no slot", "hugo", x -> x.restore(2), BAD_VALUE);
        changesNothing("restore of a slot below the first", "hugo", x -> x.restore(-1), BAD_VALUE);
        changesNothing("restore of an empty slot", "hugo", RefusedTest::oneSlotEmpty, x -> x.restore(1), NOT_POSSIBLE);
    }

    private static GaleNames allUndone() {
        GaleNames x = Offices.ordinary();
        for (int i = 0; i < UNDOS; i++) x.undo();
        return x;
    }

    private static GaleNames oneSlotEmpty() {
        GaleNames x = new GaleNames();
        Due.fill(x, 0, 0, "anna,bob");
        x.save(0);
        x.storm(0);
        return x;
    }

    /** It takes more calls than an object is promised for, but no other way leads to the year 999. */
    private static void lastYear() {
        GaleNames x = Offices.ordinary();
        while (x.count(0) < 999) x.endYear();
        StringBuilder before = new StringBuilder();
        StringBuilder then = new StringBuilder();
        for (int part = 0; part < Seen.PARTS; part++) before.append(Seen.part(x, part));
        due.is("endYear() of the year 999", x.endYear(), NOT_POSSIBLE);
        for (int part = 0; part < Seen.PARTS; part++) then.append(Seen.part(x, part));
        due.is("endYear() of the year 999 changes nothing", then.toString().equals(before.toString()) ? 1 : 0, 1);
    }

    private static void answersOfViews() {
        changesNothing("of", "", x -> x.of(1, 3), 2);
        changesNothing("letter", "", x -> x.letter(1, 0), 'b');
        changesNothing("listed", "", x -> x.listed(0, 0, 1), 2);
        changesNothing("ofStorm", "", x -> x.ofStorm(0, 2), 5);
        changesNothing("ofNamesake", "", x -> x.ofNamesake(0, 1), 1);
        changesNothing("ranked", "", x -> x.ranked(0), 0);
        changesNothing("sign", "hugo", x -> x.sign(0), 'h');
        changesNothing("count", "", x -> x.count(0), 1);
        changesNothing("save what is saved there already", "hugo", RefusedTest::justSaved, x -> x.save(1), 2);
    }

    private static GaleNames justSaved() {
        GaleNames x = new GaleNames();
        Due.fill(x, 0, 0, "anna,bob");
        x.save(1);
        return x;
    }

    private static void answersOfQuestions() {
        changesNothing("find", "bob", x -> x.find(), 1);
        changesNothing("find of an unknown name", "hugo", x -> x.find(), NONE);
        changesNothing("beginning", "bo", x -> x.beginning(), 1);
        changesNothing("next", "", x -> x.next(0), 5);
        changesNothing("left", "", x -> x.left(0, 2), 2);
        changesNothing("ifRetired", "", x -> x.ifRetired(5), 1);
        changesNothing("same", "", x -> x.same(1, 1), 3);
        changesNothing("fault", "an,b", x -> x.fault(), 4);
        changesNothing("fault of a text with none", "an,bo", x -> x.fault(), NONE);
    }

    private static void changesNothing(String what, String text, ToIntFunction<GaleNames> call, int want) {
        changesNothing(what, text, Offices::ordinary, call, want);
    }

    private static void changesNothingWhenFull(String what, String text, ToIntFunction<GaleNames> call, int want) {
        changesNothing(what, text, Offices::full, call, want);
    }

    /** Of two offices, made alike, one takes the call; then both have to look the same in each part and on each way. */
    private static void changesNothing(String what, String text, Supplier<GaleNames> office,
            ToIntFunction<GaleNames> call, int want) {
        for (int way = 0; way <= UNDOS + SLOTS; way++) {
            for (int part = 0; part < Seen.PARTS; part++) {
                GaleNames called = withPad(office, text);
                due.is(what, call.applyAsInt(called), want);
                String seen = seenOn(way, called, part);
                boolean same = seen.equals(seenOn(way, withPad(office, text), part));
                due.is(what + ", and what is seen then, way " + way + ", part " + part, same ? 1 : 0, 1);
            }
        }
    }

    private static GaleNames withPad(Supplier<GaleNames> office, String text) {
        GaleNames x = office.get();
        Due.pad(x, text);
        return x;
    }

    /** Way 0 looks at once; ways 1 to 6 undo so many changes first; the last ones restore a slot first. */
    private static String seenOn(int way, GaleNames x, int part) {
        int answers = 0;
        if (way <= UNDOS) {
            for (int i = 0; i < way; i++) answers = answers * 10 + x.undo();
        } else {
            answers = x.restore(way - UNDOS - 1);
        }
        return answers + ": " + Seen.part(x, part);
    }
}
