import java.util.function.IntBinaryOperator;
import java.util.function.IntUnaryOperator;

/**
 * For each number that a call takes: each value from the least to the greatest one is taken, and the first ones beyond
 * and some that are far off are not.
 */
public final class ArgumentBoundsTest {
    private static final int NO_SUCH = GaleNames.NO_SUCH, BAD_VALUE = GaleNames.BAD_VALUE, NONE = GaleNames.NONE;
    private static final int[] FAR_OFF = {
        Integer.MIN_VALUE, Integer.MIN_VALUE + 1, -65536, -256, 256, 257, 65536, 1 << 30, 1 << 31, Integer.MAX_VALUE - 1,
        Integer.MAX_VALUE
    };
    private static final Due due = new Due();

    public static void main(String[] args) {
        settings();
        coastsAndLists();
        places();
        coasts();
        storms();
        names();
        letters();
        namesakes();
        ranksAndSigns();
        kinds();
        harms();
        slots();
        codes();
        howManyCharacters();
        due.end();
    }

    private static void settings() {
        due.promise(2, "set, which setting");
        range("set", 0, 2, BAD_VALUE, setting -> Offices.ordinary().set(setting, 5));
        due.promise(2, "set, HARM 1 to 99");
        range("set(HARM)", 1, 99, BAD_VALUE, value -> Offices.ordinary().set(GaleNames.HARM, value));
        due.promise(2, "set, SORRY 1 to 99");
        range("set(SORRY)", 1, 99, BAD_VALUE, value -> Offices.ordinary().set(GaleNames.SORRY, value));
        due.promise(2, "set, LIKE 1 to 6");
        range("set(LIKE)", 1, 6, BAD_VALUE, value -> Offices.ordinary().set(GaleNames.LIKE, value));
    }

    /** In an office whose lists have three names and more, the pad tells a name for any of them. */
    private static void coastsAndLists() {
        due.promise(3, "fill, coasts 0 and 1, lists 0 to 2");
        lists("fill", (coast, list) -> withPad("zoe").fill(coast, list));
        due.promise(4, "strike, coasts 0 and 1, lists 0 to 2");
        lists("strike", (coast, list) -> withSixLists().strike(coast, list, 0));
        due.promise(10, "write, coasts 0 and 1, lists 0 to 2");
        lists("write", (coast, list) -> withSixLists().write(coast, list));
        due.promise(13, "listed, coasts 0 and 1, lists 0 to 2");
        lists("listed", (coast, list) -> withSixLists().listed(coast, list, 0));
    }

    private static void places() {
        due.promise(4, "strike, places of a list of three");
        range("strike", 0, 2, NO_SUCH, place -> withSixLists().strike(0, 1, place));
        due.promise(4, "strike, places of a full list");
        range("strike", 0, 7, NO_SUCH, place -> Offices.full().strike(1, 2, place));
        due.promise(13, "listed, places of a list of three");
        range("listed", 0, 2, NO_SUCH, place -> withSixLists().listed(0, 1, place));
        due.promise(13, "listed, places of a full list");
        range("listed", 0, 7, NO_SUCH, place -> Offices.full().listed(1, 2, place));
    }

    private static void coasts() {
        due.promise(5, "storm, coasts 0 and 1");
        range("storm", 0, 1, NO_SUCH, coast -> Offices.ordinary().storm(coast));
        due.promise(21, "next, coasts 0 and 1");
        range("next", 0, 1, NO_SUCH, coast -> Offices.ordinary().next(coast));
        due.promise(22, "left, coasts 0 and 1");
        range("left", 0, 1, NO_SUCH, coast -> Offices.ordinary().left(coast, 0));
        due.promise(22, "left, 0 to 2 years ahead");
        range("left", 0, 2, BAD_VALUE, ahead -> Offices.ordinary().left(1, ahead));
    }

    private static void storms() {
        due.promise(6, "harm, which storm");
        range("harm of 1", 0, 0, NO_SUCH, storm -> Offices.ordinary().harm(storm, 5));
        range("harm of 16", 0, 15, NO_SUCH, storm -> Offices.full().harm(storm, 5));
        due.promise(6, "harm, by 1 to 50");
        range("harm", 1, 50, BAD_VALUE, by -> Offices.ordinary().harm(0, by));
        due.promise(14, "ofStorm, which storm");
        range("ofStorm of 1", 0, 0, NO_SUCH, storm -> Offices.ordinary().ofStorm(storm, 0));
        range("ofStorm of 16", 0, 15, NO_SUCH, storm -> Offices.full().ofStorm(storm, 0));
        due.promise(14, "ofStorm, what 0 to 3");
        range("ofStorm", 0, 3, BAD_VALUE, what -> Offices.ordinary().ofStorm(0, what));
    }

    private static void names() {
        due.promise(11, "of, which name");
        range("of 6", 0, 5, NO_SUCH, name -> Offices.ordinary().of(name, 0));
        range("of 40", 0, 39, NO_SUCH, name -> Offices.full().of(name, 0));
        due.promise(12, "letter, which name");
        range("letter of 6", 0, 5, NO_SUCH, name -> Offices.ordinary().letter(name, 0));
        range("letter of 40", 0, 39, NO_SUCH, name -> Offices.full().letter(name, 0));
        due.promise(24, "same, which name");
        range("same of 6", 0, 5, NO_SUCH, name -> Offices.ordinary().same(name, 0));
        range("same of 40", 0, 39, NO_SUCH, name -> Offices.full().same(name, 39));
        due.promise(24, "same, which other name");
        range("same with 6", 0, 5, NO_SUCH, other -> Offices.ordinary().same(5, other));
        range("same with 40", 0, 39, NO_SUCH, other -> Offices.full().same(0, other));
    }

    private static void letters() {
        due.promise(12, "letter, which letter");
        for (int length = 2; length <= 6; length++) {
            String name = "zyxwvu".substring(0, length);
            range("letter of " + name, 0, length - 1, NO_SUCH, index -> withName(name).letter(1, index));
        }
    }

    private static void namesakes() {
        due.promise(9, "apologise, which namesake");
        range("apologise to 1", 0, 0, NO_SUCH, namesake -> Offices.ordinary().apologise(namesake));
        range("apologise to 10", 0, 9, NO_SUCH, namesake -> allAreOwed().apologise(namesake));
        due.promise(15, "ofNamesake, which namesake");
        range("ofNamesake of 1", 0, 0, NO_SUCH, namesake -> Offices.ordinary().ofNamesake(namesake, 0));
        range("ofNamesake of 10", 0, 9, NO_SUCH, namesake -> Offices.full().ofNamesake(namesake, 0));
        due.promise(15, "ofNamesake, what 0 to 2");
        range("ofNamesake", 0, 2, BAD_VALUE, what -> Offices.ordinary().ofNamesake(0, what));
    }

    private static void ranksAndSigns() {
        due.promise(16, "ranked, which rank");
        range("ranked of 6", 0, 5, NO_SUCH, rank -> Offices.ordinary().ranked(rank));
        range("ranked of 40", 0, 39, NO_SUCH, rank -> Offices.full().ranked(rank));
        due.promise(17, "sign, which place");
        range("sign of 3", 0, 2, NO_SUCH, place -> Offices.ordinary().sign(place));
        range("sign of 80", 0, 79, NO_SUCH, place -> withPad(Offices.letters(80)).sign(place));
    }

    private static void kinds() {
        due.promise(11, "of, what 0 to 6");
        range("of", 0, 6, BAD_VALUE, what -> Offices.ordinary().of(1, what));
        due.promise(18, "count, what 0 to 13");
        range("count", 0, 13, BAD_VALUE, what -> Offices.ordinary().count(what));
        range("count in an empty office", 0, 13, BAD_VALUE, what -> new GaleNames().count(what));
    }

    private static void harms() {
        due.promise(23, "ifRetired, harm 1 to 99");
        range("ifRetired", 1, 99, BAD_VALUE, harm -> Offices.ordinary().ifRetired(harm));
        range("ifRetired in an empty office", 1, 99, BAD_VALUE, harm -> new GaleNames().ifRetired(harm));
    }

    private static void slots() {
        due.promise(29, "save, slots 0 and 1");
        range("save", 0, 1, BAD_VALUE, slot -> Offices.ordinary().save(slot));
        range("save in an empty office", 0, 1, BAD_VALUE, slot -> new GaleNames().save(slot));
        due.promise(30, "restore, slots 0 and 1");
        range("restore", 0, 1, BAD_VALUE, slot -> Offices.ordinary().restore(slot));
    }

    /** Each of the 256 codes at each of the 8 places, the others being letters. */
    private static void codes() {
        due.promise(25, "put, codes 33 to 126");
        for (int places = 1; places <= 8; places++) {
            for (int place = 0; place < places; place++) {
                for (int code = 0; code < 256; code++) {
                    long characters = Due.packed("abcdefgh".substring(0, places));
                    characters = characters & ~(255L << 8 * place) | (long) code << 8 * place;
                    boolean taken = code >= 33 && code <= 126;
                    int shorter = code == 0 && place == places - 1 && places > 1 ? places - 1 : BAD_VALUE;
                    int want = taken ? places : shorter;
                    due.is("put of code " + code + " at place " + place, new GaleNames().put(characters), want);
                }
            }
        }
    }

    private static void howManyCharacters() {
        due.promise(25, "put, 1 to 8 characters");
        due.is("put of none", new GaleNames().put(0), BAD_VALUE);
        for (int many = 1; many <= 8; many++) {
            GaleNames x = new GaleNames();
            due.is("put of " + many, x.put(Due.packed("abcdefgh".substring(0, many))), many);
            due.padIs(x, "abcdefgh".substring(0, many));
        }
        for (int bit = 16; bit < 64; bit++) {
            due.is("put of one, and bit " + bit, new GaleNames().put(1L << bit | 'a'), BAD_VALUE);
            due.is("put of none, and bit " + bit, new GaleNames().put(1L << bit), BAD_VALUE);
        }
        due.is("put of the lowest number", new GaleNames().put(Long.MIN_VALUE), BAD_VALUE);
        due.is("put of the highest number", new GaleNames().put(Long.MAX_VALUE), BAD_VALUE);
        due.is("put of -1", new GaleNames().put(-1), BAD_VALUE);
    }

    /** Asks each value that is to be taken, and those that are not. */
    private static void range(String call, int least, int greatest, int beyond, IntUnaryOperator answer) {
        for (int value = least; value <= greatest; value++) {
            int got = answer.applyAsInt(value);
            due.is(call + ": " + value + " is taken, answer " + got, got >= 0 || got == NONE ? 1 : 0, 1);
        }
        due.is(call + ": " + (least - 1), answer.applyAsInt(least - 1), beyond);
        due.is(call + ": " + (greatest + 1), answer.applyAsInt(greatest + 1), beyond);
        for (int value : FAR_OFF) due.is(call + ": " + value, answer.applyAsInt(value), beyond);
    }

    /** Asks each list, and all that is beyond on one side or on both, also where the two together look like a list. */
    private static void lists(String call, IntBinaryOperator answer) {
        for (int coast = 0; coast < 2; coast++) {
            int there = coast;
            range(call + ", list of coast " + coast, 0, 2, NO_SUCH, list -> answer.applyAsInt(there, list));
        }
        for (int list = -3; list <= 6; list++) {
            int there = list;
            boolean isList = list >= 0 && list <= 2;
            if (isList) range(call + ", coast of list " + list, 0, 1, NO_SUCH, coast -> answer.applyAsInt(coast, there));
            for (int coast : new int[] {-2, -1, 2, 3}) {
                due.is(call + "(" + coast + ", " + list + ")", answer.applyAsInt(coast, list), NO_SUCH);
            }
        }
    }

    private static GaleNames withSixLists() {
        GaleNames x = new GaleNames();
        for (int list = 0; list < 6; list++) Due.fill(x, list / 3, list % 3, Offices.names(0, 3, (char) ('a' + list)));
        return x;
    }

    private static GaleNames withPad(String text) {
        GaleNames x = withSixLists();
        Due.pad(x, text);
        return x;
    }

    private static GaleNames withName(String name) {
        GaleNames x = new GaleNames();
        Due.fill(x, 0, 0, "ab," + name);
        return x;
    }

    /** Ten namesakes, each of whom is owed an apology. */
    private static GaleNames allAreOwed() {
        GaleNames x = Offices.full();
        x.harm(0, 10);
        x.endYear();
        return x;
    }
}
